/-! owners in the reference -/
def mP (w : zW) (c : Int) : Int → Int := fun o => w 117 (6 * c + o)
theorem mP_fr {w w' : zW} {c : Int} (h : ∀ i, w' 117 i = w 117 i) : mP w' c = mP w c := funext fun o => h _
theorem oPaid_0 {m p : Int → Int} {x o : Int} (hI : okOwn m p) (h0 : 0 ≤ o) (h1 : o < 6) (h : ¬ (0 < m o ∧ 0 < p o)) : oPaid m p x o = 0 ∧ oEff m p o = 0 := by
  have hh := hI o h0 h1
  have e : oEff m p o = 0 := by unfold oEff; split <;> omega
  refine ⟨?_, e⟩
  unfold oPaid oShare
  rw [e, Int.mul_zero, Int.zero_ediv]
  split <;> omega
theorem oPaid_1 {m p : Int → Int} {x o : Int} (hI : okOwn m p) (h0 : 0 ≤ o) (h1 : o < 6) (h : 0 < m o ∧ 0 < p o) : 0 < oTog m p ∧ oPaid m p x o = min (m o) (x * p o / oTog m p) ∧ oEff m p o = p o := by
  have e : oEff m p o = p o := by unfold oEff; rw [if_pos h.1]
  have ht : 0 < oTog m p := by
    have h2 := zsum_ge (f := fun k : Nat => oEff m p k) 6 o.toNat (by omega) (fun k hk => (oEff_b hI (by omega) (by omega)).1)
    simp only [zcast h0, e] at h2
    unfold oTog
    omega
  refine ⟨ht, ?_, e⟩
  unfold oPaid oShare
  rw [if_neg (by omega), e]
set_option maxRecDepth 100000 in
set_option maxHeartbeats 4000000 in
theorem m_isOwner {l : Launch} {w : zW} {S : zS} {c : Int} (hc : inR c) : zSp l mX12_isOwner false 2 0 0 [zI c] S w (zRt (some (zI (if 0 ≤ c ∧ c ≤ 5 then 1 else 0))) S w) zNo := by
  refine zA_intro ⟨plainFor_of_name (by decide +kernel), Or.inl (by decide +kernel)⟩ rfl (Nat.le_of_ble_eq_true rfl) ?_
  refine zA_range (fun hr => ?_)
  show zA l mX12_isOwner false 2 0 0 (zRt (some (zI (if 0 ≤ c ∧ c ≤ 5 then 1 else 0))) S w) zNo 0 [zI c] [] S w
  refine zA_iload_n dX12_isOwner_0 rfl ?_
  refine zA_iconst dX12_isOwner_1 ?_
  refine zA_iconst dX12_isOwner_2 ?_
  refine zA_cS (st := []) dX12_isOwner_3 sX12_isIn kX12_185 (m_isIn (w := w) (a := c) (b := 0) (e := 5) (by first | assumption | exact hr _ _ | exact inR_mk (by omega) (by omega)) ⟨by decide, by decide⟩ ⟨by decide, by decide⟩) (by decide) rfl rfl (Nat.le_of_ble_eq_true rfl) (zRt_el ?_)
  show zA l mX12_isOwner false 2 0 0 (zRt (some (zI (if 0 ≤ c ∧ c ≤ 5 then 1 else 0))) S w) zNo 6 [zI c] [zI (if 0 ≤ c ∧ c ≤ 5 then 1 else 0)] S w
  refine zA_zret dX12_isOwner_6 rfl (by first | assumption | omega) ?_
  exact zRt_i rfl

set_option maxRecDepth 100000 in
set_option maxHeartbeats 4000000 in
theorem m_isPaying {l : Launch} {t dr tx : Nat} {w : zW} {c o : Int} (h0 : 0 ≤ c) (h1 : c < 12) (o0 : 0 ≤ o) (o1 : o < 6) : zSp l mX12_isPaying false 1 0 0 [zR 73, zI c, zI o] (ZZ t dr tx) w (zRt (some (zI (if 0 < w 116 o ∧ 0 < mP w c o then 1 else 0))) (ZZ t dr tx) w) zNo := by
  refine zA_intro ⟨plainFor_of_name (by decide +kernel), Or.inl (by decide +kernel)⟩ rfl (Nat.le_of_ble_eq_true rfl) ?_
  refine zA_range (fun hr => ?_)
  show zA l mX12_isPaying false 1 0 0 (zRt (some (zI (if 0 < w 116 o ∧ 0 < mP w c o then 1 else 0))) (ZZ t dr tx) w) zNo 0 [zR 73, zI c, zI o] [] (ZZ t dr tx) w
  refine zA_aload_n dX12_isPaying_0 rfl ?_
  refine zA_getR (n := 116) dX12_isPaying_1 fX12_160 c73 rfl ?_
  refine zA_iload_n dX12_isPaying_4 rfl ?_
  refine zA_iaload dX12_isPaying_5 c116 (by first | assumption | omega) (by first | assumption | omega) (by decide) ?_
  refine zA_if_le (tgt := 27) dX12_isPaying_6 (by decide) (by first | assumption | exact hr _ _ | exact inR_mk (by omega) (by omega)) (fun c6 => ?_) (fun c6 => ?_)
  · skip
    refine zA_iconst dX12_isPaying_27 ?_
    refine zA_zret dX12_isPaying_28 rfl (Or.inl rfl) ?_
    exact zRt_i (by unfold mP; split <;> first | rfl | omega)
  · skip
    refine zA_aload_n dX12_isPaying_9 rfl ?_
    refine zA_getR (n := 117) dX12_isPaying_10 fX12_163 c73 rfl ?_
    refine zA_bipush dX12_isPaying_13 rfl ?_
    refine zA_iload_n dX12_isPaying_15 rfl ?_
    refine zA_imul dX12_isPaying_16 ?_
    refine zA_iload_n dX12_isPaying_17 rfl ?_
    refine zA_iadd dX12_isPaying_18 ?_
    refine zA_iaload dX12_isPaying_19 c117 (by first | assumption | omega) (by first | assumption | omega) (by decide) ?_
    refine zA_if_le (tgt := 27) dX12_isPaying_20 (by decide) (by first | assumption | exact hr _ _ | exact inR_mk (by omega) (by omega)) (fun c20 => ?_) (fun c20 => ?_)
    · skip
      refine zA_iconst dX12_isPaying_27 ?_
      refine zA_zret dX12_isPaying_28 rfl (Or.inl rfl) ?_
      exact zRt_i (by unfold mP; split <;> first | rfl | omega)
    · skip
      refine zA_iconst dX12_isPaying_23 ?_
      refine zA_goto (tgt := 28) dX12_isPaying_24 (by decide) ?_
      refine zA_zret dX12_isPaying_28 rfl (Or.inr rfl) ?_
      exact zRt_i (by unfold mP; split <;> first | rfl | omega)

set_option maxRecDepth 100000 in
set_option maxHeartbeats 4000000 in
theorem m_pay {l : Launch} {t dr tx : Nat} {w : zW} {o u : Int} (o0 : 0 ≤ o) (o1 : o < 6) (hu0 : 0 ≤ u) (hu : u ≤ w 116 o) (hm : w 116 o ≤ 9999) (hq0 : 0 ≤ w 118 o) (hq : w 118 o ≤ 1000000) : zSp l mX12_pay false 1 0 0 [zR 73, zI o, zI u] (ZZ t dr tx) w (zRt none (ZZ t dr tx) (up (up w 116 o (w 116 o - u)) 118 o (w 118 o + u))) zNo := by
  refine zA_intro ⟨plainFor_of_name (by decide +kernel), Or.inl (by decide +kernel)⟩ rfl (Nat.le_of_ble_eq_true rfl) ?_
  refine zA_range (fun hr => ?_)
  show zA l mX12_pay false 1 0 0 (zRt none (ZZ t dr tx) (up (up w 116 o (w 116 o - u)) 118 o (w 118 o + u))) zNo 0 [zR 73, zI o, zI u] [] (ZZ t dr tx) w
  refine zA_aload_n dX12_pay_0 rfl ?_
  refine zA_getR (n := 116) dX12_pay_1 fX12_160 c73 rfl ?_
  refine zA_iload_n dX12_pay_4 rfl ?_
  refine zA_dup2 dX12_pay_5 rfl rfl ?_
  refine zA_iaload dX12_pay_6 c116 (by first | assumption | omega) (by first | assumption | omega) (by decide) ?_
  refine zA_iload_n dX12_pay_7 rfl ?_
  refine zA_isub dX12_pay_8 ?_
  refine zA_iastore dX12_pay_9 (by first | assumption | exact hr _ _ | exact inR_mk (by omega) (by omega)) c116 (by first | assumption | omega) (by first | assumption | omega) (by decide) ?_
  refine zA_namew (fun w_1 hw_1 => ?_)
  refine zA_range (fun hr => ?_)
  replace hw_1 : w_1 = up w 116 o ((w 116 o) - u) := hw_1
  have e1 : w_1 118 o = w 118 o := by rw [hw_1, up_cell _ _ _ _ (by decide : (118 : Nat) ≠ 116)]
  refine zA_aload_n dX12_pay_10 rfl ?_
  refine zA_getR (n := 118) dX12_pay_11 fX12_166 c73 rfl ?_
  refine zA_iload_n dX12_pay_14 rfl ?_
  refine zA_dup2 dX12_pay_15 rfl rfl ?_
  refine zA_iaload dX12_pay_16 c118 (by first | assumption | omega) (by first | assumption | omega) (by decide) ?_
  refine zA_iload_n dX12_pay_17 rfl ?_
  refine zA_iadd dX12_pay_18 ?_
  refine zA_iastore dX12_pay_19 (by first | assumption | exact hr _ _ | exact inR_mk (by omega) (by omega)) c118 (by first | assumption | omega) (by first | assumption | omega) (by decide) ?_
  refine zA_namew (fun w_2 hw_2 => ?_)
  refine zA_range (fun hr => ?_)
  replace hw_2 : w_2 = up w_1 118 o ((w_1 118 o) + u) := hw_2
  refine zA_vret dX12_pay_20 rfl ?_
  rw [hw_2, hw_1, up_cell _ _ _ _ (by decide : (118 : Nat) ≠ 116)]
  exact ⟨rfl, rfl, rfl⟩

set_option maxRecDepth 100000 in
set_option maxHeartbeats 4000000 in
theorem m_round {l : Launch} {t dr tx : Nat} {w : zW} {c x : Int} (hI : okOwn (w 116) (mP w c)) (h0 : 0 ≤ c) (h1 : c < 12) (hx0 : 0 ≤ x) (hx : x ≤ 99999) (hq : ∀ o : Int, 0 ≤ o → o < 6 → 0 ≤ w 118 o ∧ w 118 o ≤ 500000) : zSp l mX12_round false 2 0 0 [zR 73, zI c, zI x] (ZZ t dr tx) w (fun v' S' w' => v' = some (zI (oGot (w 116) (mP w c) x)) ∧ S' = (ZZ t dr tx) ∧ frm [116, 118, 119] w w' ∧ ∀ o : Int, 0 ≤ o → o < 6 → w' 116 o = w 116 o - oPaid (w 116) (mP w c) x o ∧ w' 118 o = w 118 o + oPaid (w 116) (mP w c) x o) zNo := by
  refine zA_intro ⟨plainFor_of_name (by decide +kernel), Or.inl (by decide +kernel)⟩ rfl (Nat.le_of_ble_eq_true rfl) ?_
  refine zA_range (fun hr => ?_)
  show zA l mX12_round false 2 0 0 (fun v' S' w' => v' = some (zI (oGot (w 116) (mP w c) x)) ∧ S' = (ZZ t dr tx) ∧ frm [116, 118, 119] w w' ∧ ∀ o : Int, 0 ≤ o → o < 6 → w' 116 o = w 116 o - oPaid (w 116) (mP w c) x o ∧ w' 118 o = w 118 o + oPaid (w 116) (mP w c) x o) zNo 0 [zR 73, zI c, zI x, .null, .null, .null] [] (ZZ t dr tx) w
  refine zA_iconst dX12_round_0 ?_
  refine zA_istore_n (lo1 := [zR 73, zI c, zI x, zI 0, .null, .null]) dX12_round_1 (by decide) rfl rfl ?_
  refine zA_iconst dX12_round_2 ?_
  refine zA_istore (lo1 := [zR 73, zI c, zI x, zI 0, zI 0, .null]) dX12_round_3 (by decide) rfl rfl ?_
  have L5 : ∀ (z5 : Nat) (s : Int) (o : Int) (o0 : 0 ≤ o) (o1 : o ≤ 6) (hs : s = (zsum o.toNat (fun k => oEff (w 116) (mP w c) k))) (zm : (6 - o).toNat < z5), zA l mX12_round false 2 0 0 (fun v' S' w' => v' = some (zI (oGot (w 116) (mP w c) x)) ∧ S' = (ZZ t dr tx) ∧ frm [116, 118, 119] w w' ∧ ∀ o : Int, 0 ≤ o → o < 6 → w' 116 o = w 116 o - oPaid (w 116) (mP w c) x o ∧ w' 118 o = w 118 o + oPaid (w 116) (mP w c) x o) zNo 5 [zR 73, zI c, zI x, zI s, zI o, .null] [] (ZZ t dr tx) w := by
    intro z5
    induction z5 with
    | zero => intro s o o0 o1 hs zm; exact absurd zm (Nat.not_lt_zero _)
    | succ z5 ih5 =>
      intro s o o0 o1 hs zm
      refine zA_iload dX12_round_5 rfl ?_
      refine zA_bipush dX12_round_7 rfl ?_
      refine zA_icmp_ge (tgt := 47) dX12_round_9 (by decide) (by first | assumption | exact hr _ _ | exact inR_mk (by omega) (by omega)) ⟨by decide, by decide⟩ (fun c9 => ?_) (fun c9 => ?_)
      · skip
        have ht := oTog_b hI o.toNat (by omega)
        refine zA_iconst dX12_round_47 ?_
        refine zA_istore (lo1 := [zR 73, zI c, zI x, zI s, zI 0, .null]) dX12_round_48 (by decide) rfl rfl ?_
        refine zA_iconst dX12_round_50 ?_
        refine zA_istore (lo1 := [zR 73, zI c, zI x, zI s, zI 0, zI 0]) dX12_round_51 (by decide) rfl rfl ?_
        have hT : s = oTog (w 116) (mP w c) := by
          rw [hs, show o = 6 by omega]; rfl
        rw [hT]
        have L53 : ∀ (z53 : Nat) (g : Int) (o : Int) (w1 : zW) (o0 : 0 ≤ o) (o1 : o ≤ 6) (hg : g = zsum o.toNat (fun k => oPaid (w 116) (mP w c) x k)) (hf : only 119 w w1) (hd : ∀ k : Int, 0 ≤ k → k < o → w1 119 k = oPaid (w 116) (mP w c) x k) (zm : (6 - o).toNat < z53), zA l mX12_round false 2 0 0 (fun v' S' w' => v' = some (zI (oGot (w 116) (mP w c) x)) ∧ S' = (ZZ t dr tx) ∧ frm [116, 118, 119] w w' ∧ ∀ o : Int, 0 ≤ o → o < 6 → w' 116 o = w 116 o - oPaid (w 116) (mP w c) x o ∧ w' 118 o = w 118 o + oPaid (w 116) (mP w c) x o) zNo 53 [zR 73, zI c, zI x, zI (oTog (w 116) (mP w c)), zI g, zI o] [] (ZZ t dr tx) w1 := by
          intro z53
          induction z53 with
          | zero => intro g o w1 o0 o1 hg hf hd zm; exact absurd zm (Nat.not_lt_zero _)
          | succ z53 ih53 =>
            intro g o w1 o0 o1 hg hf hd zm
            refine zA_range (fun hr => ?_)
            refine zA_iload dX12_round_53 rfl ?_
            refine zA_bipush dX12_round_55 rfl ?_
            refine zA_icmp_ge (tgt := 125) dX12_round_57 (by decide) (by first | assumption | exact hr _ _ | exact inR_mk (by omega) (by omega)) ⟨by decide, by decide⟩ (fun c57 => ?_) (fun c57 => ?_)
            · skip
              refine zA_iconst dX12_round_125 ?_
              refine zA_istore (lo1 := [zR 73, zI c, zI x, zI (oTog (w 116) (mP w c)), zI g, zI 0]) dX12_round_126 (by decide) rfl rfl ?_
              refine zA_drop 3 (lo1 := [zR 73, zI c, zI x, .null, zI g, zI 0]) rfl ?_
              have hG : g = oGot (w 116) (mP w c) x := by
                rw [hg, show o = 6 by omega]; exact oGot_s
              rw [hG]
              have L128 : ∀ (z128 : Nat) (o : Int) (w2 : zW) (o0 : 0 ≤ o) (o1 : o ≤ 6) (hf2 : frm [116, 118, 119] w w2) (hp2 : ∀ k : Int, 0 ≤ k → k < 6 → w2 119 k = oPaid (w 116) (mP w c) x k) (hd2 : ∀ k : Int, 0 ≤ k → k < o → w2 116 k = w 116 k - oPaid (w 116) (mP w c) x k ∧ w2 118 k = w 118 k + oPaid (w 116) (mP w c) x k) (hu : ∀ k : Int, o ≤ k → k < 6 → w2 116 k = w 116 k ∧ w2 118 k = w 118 k) (zm : (6 - o).toNat < z128), zA l mX12_round false 2 0 0 (fun v' S' w' => v' = some (zI (oGot (w 116) (mP w c) x)) ∧ S' = (ZZ t dr tx) ∧ frm [116, 118, 119] w w' ∧ ∀ o : Int, 0 ≤ o → o < 6 → w' 116 o = w 116 o - oPaid (w 116) (mP w c) x o ∧ w' 118 o = w 118 o + oPaid (w 116) (mP w c) x o) zNo 128 [zR 73, zI c, zI x, .null, zI (oGot (w 116) (mP w c) x), zI o] [] (ZZ t dr tx) w2 := by
                intro z128
                induction z128 with
                | zero => intro o w2 o0 o1 hf2 hp2 hd2 hu zm; exact absurd zm (Nat.not_lt_zero _)
                | succ z128 ih128 =>
                  intro o w2 o0 o1 hf2 hp2 hd2 hu zm
                  refine zA_range (fun hr => ?_)
                  refine zA_iload dX12_round_128 rfl ?_
                  refine zA_bipush dX12_round_130 rfl ?_
                  refine zA_icmp_ge (tgt := 154) dX12_round_132 (by decide) (by first | assumption | exact hr _ _ | exact inR_mk (by omega) (by omega)) ⟨by decide, by decide⟩ (fun c132 => ?_) (fun c132 => ?_)
                  · skip
                    refine zA_iload dX12_round_154 rfl ?_
                    refine zA_iret dX12_round_156 rfl ?_
                    exact ⟨rfl, rfl, hf2, fun k h1 h2 => hd2 k h1 (by omega)⟩
                  · skip
                    have hpo := hp2 o o0 (by omega)
                    have hpb := oPaid_b (x := x) hI hx0 o0 (by omega)
                    have huo := hu o (by omega) (by omega)
                    have hio := hI o o0 (by omega)
                    have hqo := hq o o0 (by omega)
                    refine zA_aload_n dX12_round_135 rfl ?_
                    refine zA_iload dX12_round_136 rfl ?_
                    refine zA_aload_n dX12_round_138 rfl ?_
                    refine zA_getR (n := 119) dX12_round_139 fX12_169 c73 rfl ?_
                    refine zA_iload dX12_round_142 rfl ?_
                    refine zA_iaload dX12_round_144 c119 (by first | assumption | omega) (by first | assumption | omega) (by decide) ?_
                    refine zA_cV (st := []) dX12_round_145 vX12_pay kX12_501 (m_pay (w := w2) (o := o) (u := w2 119 o) o0 (by omega) (by omega) (by omega) (by omega) (by omega) (by omega)) (by decide) c73 rfl rfl (Nat.le_of_ble_eq_true rfl) rfl (zRt_el ?_)
                    show zA l mX12_round false 2 0 0 (fun v' S' w' => v' = some (zI (oGot (w 116) (mP w c) x)) ∧ S' = (ZZ t dr tx) ∧ frm [116, 118, 119] w w' ∧ ∀ o : Int, 0 ≤ o → o < 6 → w' 116 o = w 116 o - oPaid (w 116) (mP w c) x o ∧ w' 118 o = w 118 o + oPaid (w 116) (mP w c) x o) zNo 148 [zR 73, zI c, zI x, .null, zI (oGot (w 116) (mP w c) x), zI o] [] (ZZ t dr tx) (up (up w2 116 o (w2 116 o - w2 119 o)) 118 o (w2 118 o + w2 119 o))
                    refine zA_iinc (lo1 := [zR 73, zI c, zI x, .null, zI (oGot (w 116) (mP w c) x), zI (o + 1)]) dX12_round_148 rfl (by decide) rfl rfl ?_
                    refine zA_goto (tgt := 128) dX12_round_151 (by decide) ?_
                    exact ih128 (o + 1) _ (by omega) (by omega) (frm_up (frm_up hf2 (by decide)) (by decide)) (fun k h1 h2 => by rw [up_cell _ _ _ _ (by decide : (119 : Nat) ≠ 118), up_cell _ _ _ _ (by decide : (119 : Nat) ≠ 116)]; exact hp2 k h1 h2) (fun k h1 h2 => by
                                by_cases hk : k = o
                                · subst hk; rw [up_cell _ _ _ _ (by decide : (116 : Nat) ≠ 118), up_same, up_same, hpo, (hu k (by omega) (by omega)).1, (hu k (by omega) (by omega)).2]; exact ⟨rfl, rfl⟩
                                · rw [up_cell _ _ _ _ (by decide : (116 : Nat) ≠ 118), up_idx _ _ _ _ hk, up_idx _ _ _ _ hk, up_cell _ _ _ _ (by decide : (118 : Nat) ≠ 116)]; exact hd2 k h1 (by omega)) (fun k h1 h2 => by
                                rw [up_cell _ _ _ _ (by decide : (116 : Nat) ≠ 118), up_idx _ _ _ _ (by omega), up_idx _ _ _ _ (by omega), up_cell _ _ _ _ (by decide : (118 : Nat) ≠ 116)]; exact hu k (by omega) h2) (by omega)
              exact L128 _ 0 w1 (by omega) (by omega) (frm_mono (only_frm hf) (by decide)) (fun k h1 h2 => hd k h1 (by omega)) (fun k h1 h2 => by omega) (fun k h1 h2 => ⟨hf 116 k (by decide), hf 118 k (by decide)⟩) (Nat.lt_succ_self _)
            · skip
              have e116 : w1 116 o = w 116 o := hf 116 o (by decide)
              have e117 : w1 117 (6 * c + o) = mP w c o := hf 117 _ (by decide)
              have hcp : mP w1 c = mP w c := mP_fr (fun i => hf 117 i (by decide))
              have hio := hI o o0 (by omega)
              have hpb := oPaid_b (x := x) hI hx0 o0 (by omega)
              have hgb : 0 ≤ zsum o.toNat (fun k => oPaid (w 116) (mP w c) x k) ∧ zsum o.toNat (fun k => oPaid (w 116) (mP w c) x k) ≤ o.toNat * 9999 := zsum_b _ (fun k hk => by
                have := oPaid_b (x := x) (o := k) hI hx0 (by omega) (by omega)
                have := hI k (by omega) (by omega)
                omega)
              refine zA_aload_n dX12_round_60 rfl ?_
              refine zA_getR (n := 119) dX12_round_61 fX12_169 c73 rfl ?_
              refine zA_iload dX12_round_64 rfl ?_
              refine zA_aload_n dX12_round_66 rfl ?_
              refine zA_iload_n dX12_round_67 rfl ?_
              refine zA_iload dX12_round_68 rfl ?_
              refine zA_cV (st := [zI o, zR 119]) dX12_round_70 vX12_isPaying kX12_498 (m_isPaying (w := w1) (c := c) (o := o) h0 h1 o0 (by omega)) (by decide) c73 rfl rfl (Nat.le_of_ble_eq_true rfl) rfl (zRt_el ?_)
              show zA l mX12_round false 2 0 0 (fun v' S' w' => v' = some (zI (oGot (w 116) (mP w c) x)) ∧ S' = (ZZ t dr tx) ∧ frm [116, 118, 119] w w' ∧ ∀ o : Int, 0 ≤ o → o < 6 → w' 116 o = w 116 o - oPaid (w 116) (mP w c) x o ∧ w' 118 o = w 118 o + oPaid (w 116) (mP w c) x o) zNo 73 [zR 73, zI c, zI x, zI (oTog (w 116) (mP w c)), zI g, zI o] [zI (if 0 < w1 116 o ∧ 0 < mP w1 c o then 1 else 0), zI o, zR 119] (ZZ t dr tx) w1
              refine zA_if_eq (tgt := 105) dX12_round_73 (by decide) (inR_ite _) (fun k73 => ?_) (fun k73 => ?_)
              · skip
                replace k73 := zite_eq k73
                rw [e116, hcp] at k73
                refine zA_iconst dX12_round_105 ?_
                refine zA_valI (oPaid (w 116) (mP w c) x o) (by first | exact (oPaid_0 (x := x) hI o0 (by omega) k73).1.symm | (rw [e116, e117]; exact (oPaid_1 (x := x) hI o0 (by omega) k73).2.1.symm)) ?_
                refine zA_iastore dX12_round_106 (by first | assumption | exact hr _ _ | exact inR_mk (by omega) (by omega)) c119 (by first | assumption | omega) (by first | assumption | omega) (by decide) ?_
                refine zA_namew (fun w_1 hw_1 => ?_)
                refine zA_range (fun hr => ?_)
                replace hw_1 : w_1 = up w1 119 o (oPaid (w 116) (mP w c) x o) := hw_1
                refine zA_iload dX12_round_107 rfl ?_
                refine zA_aload_n dX12_round_109 rfl ?_
                refine zA_getR (n := 119) dX12_round_110 fX12_169 c73 rfl ?_
                refine zA_iload dX12_round_113 rfl ?_
                refine zA_iaload dX12_round_115 c119 (by first | assumption | omega) (by first | assumption | omega) (by decide) ?_
                refine zA_iadd dX12_round_116 ?_
                refine zA_istore (lo1 := [zR 73, zI c, zI x, zI (oTog (w 116) (mP w c)), zI (g + (w_1 119 o)), zI o]) dX12_round_117 (by decide) rfl rfl ?_
                refine zA_iinc (lo1 := [zR 73, zI c, zI x, zI (oTog (w 116) (mP w c)), zI (g + (w_1 119 o)), zI (o + 1)]) dX12_round_119 rfl (by decide) rfl rfl ?_
                refine zA_goto (tgt := 53) dX12_round_122 (by decide) ?_
                exact ih53 _ (o + 1) _ (by omega) (by omega) (by rw [zsucc o0]; simp only [zsum]; rw [zcast o0, hg]; show _ + w_1 119 o = _; rw [hw_1, up_same]) (by rw [hw_1]; exact only_up hf) (fun k h1 h2 => by
                            by_cases hk : k = o
                            · subst hk; rw [hw_1, up_same]
                            · rw [hw_1, up_idx _ _ _ _ hk]; exact hd k h1 (by omega)) (by omega)
              · skip
                replace k73 := zite_ne k73
                rw [e116, hcp] at k73
                have hp1 := oPaid_1 (x := x) hI o0 (by omega) k73
                have hm := zmulB hx0 hx (show 0 ≤ w1 117 (6 * c + o) by omega) (show w1 117 (6 * c + o) ≤ 100 by omega)
                have htb : oTog (w 116) (mP w c) ≤ 600 := (oTog_b hI 6 (by decide)).2
                have hdv : x * w1 117 (6 * c + o) / oTog (w 116) (mP w c) ≤ x * w1 117 (6 * c + o) := Int.ediv_le_self _ hm.1
                have hdn : 0 ≤ x * w1 117 (6 * c + o) / oTog (w 116) (mP w c) := Int.ediv_nonneg hm.1 (by omega)
                refine zA_aload_n dX12_round_76 rfl ?_
                refine zA_getR (n := 116) dX12_round_77 fX12_160 c73 rfl ?_
                refine zA_iload dX12_round_80 rfl ?_
                refine zA_iaload dX12_round_82 c116 (by first | assumption | omega) (by first | assumption | omega) (by decide) ?_
                refine zA_iload_n dX12_round_83 rfl ?_
                refine zA_aload_n dX12_round_84 rfl ?_
                refine zA_getR (n := 117) dX12_round_85 fX12_163 c73 rfl ?_
                refine zA_bipush dX12_round_88 rfl ?_
                refine zA_iload_n dX12_round_90 rfl ?_
                refine zA_imul dX12_round_91 ?_
                refine zA_iload dX12_round_92 rfl ?_
                refine zA_iadd dX12_round_94 ?_
                refine zA_iaload dX12_round_95 c117 (by first | assumption | omega) (by first | assumption | omega) (by decide) ?_
                refine zA_imul dX12_round_96 ?_
                refine zA_iload_n dX12_round_97 rfl ?_
                refine zA_idiv dX12_round_98 (by first | assumption | omega) (by first | assumption | omega) (by first | assumption | omega) (by first | assumption | omega) ?_
                refine zA_mmin dX12_round_99 kmX12_219 zw_min (by first | assumption | exact hr _ _ | exact inR_mk (by omega) (by omega)) (by first | assumption | exact hr _ _ | exact inR_mk (by omega) (by omega)) (Nat.le_of_ble_eq_true rfl) ?_
                refine zA_goto (tgt := 106) dX12_round_102 (by decide) ?_
                refine zA_valI (oPaid (w 116) (mP w c) x o) (by first | exact (oPaid_0 (x := x) hI o0 (by omega) k73).1.symm | (rw [e116, e117]; exact (oPaid_1 (x := x) hI o0 (by omega) k73).2.1.symm)) ?_
                refine zA_iastore dX12_round_106 (by first | assumption | exact hr _ _ | exact inR_mk (by omega) (by omega)) c119 (by first | assumption | omega) (by first | assumption | omega) (by decide) ?_
                refine zA_namew (fun w_2 hw_2 => ?_)
                refine zA_range (fun hr => ?_)
                replace hw_2 : w_2 = up w1 119 o (oPaid (w 116) (mP w c) x o) := hw_2
                refine zA_iload dX12_round_107 rfl ?_
                refine zA_aload_n dX12_round_109 rfl ?_
                refine zA_getR (n := 119) dX12_round_110 fX12_169 c73 rfl ?_
                refine zA_iload dX12_round_113 rfl ?_
                refine zA_iaload dX12_round_115 c119 (by first | assumption | omega) (by first | assumption | omega) (by decide) ?_
                refine zA_iadd dX12_round_116 ?_
                refine zA_istore (lo1 := [zR 73, zI c, zI x, zI (oTog (w 116) (mP w c)), zI (g + (w_2 119 o)), zI o]) dX12_round_117 (by decide) rfl rfl ?_
                refine zA_iinc (lo1 := [zR 73, zI c, zI x, zI (oTog (w 116) (mP w c)), zI (g + (w_2 119 o)), zI (o + 1)]) dX12_round_119 rfl (by decide) rfl rfl ?_
                refine zA_goto (tgt := 53) dX12_round_122 (by decide) ?_
                exact ih53 _ (o + 1) _ (by omega) (by omega) (by rw [zsucc o0]; simp only [zsum]; rw [zcast o0, hg]; show _ + w_2 119 o = _; rw [hw_2, up_same]) (by rw [hw_2]; exact only_up hf) (fun k h1 h2 => by
                            by_cases hk : k = o
                            · subst hk; rw [hw_2, up_same]
                            · rw [hw_2, up_idx _ _ _ _ hk]; exact hd k h1 (by omega)) (by omega)
        exact L53 _ 0 0 w (by omega) (by omega) rfl only_rfl (fun k h1 h2 => by omega) (Nat.lt_succ_self _)
      · skip
        have ht := oTog_b hI o.toNat (by omega)
        have he := oEff_b hI o0 (by omega)
        have hio := hI o o0 (by omega)
        have hpo : mP w c o = w 117 (6 * c + o) := rfl
        refine zA_iload_n dX12_round_12 rfl ?_
        refine zA_aload_n dX12_round_13 rfl ?_
        refine zA_iload_n dX12_round_14 rfl ?_
        refine zA_iload dX12_round_15 rfl ?_
        refine zA_cV (st := [zI s]) dX12_round_17 vX12_isPaying kX12_498 (m_isPaying (w := w) (c := c) (o := o) h0 h1 o0 (by omega)) (by decide) c73 rfl rfl (Nat.le_of_ble_eq_true rfl) rfl (zRt_el ?_)
        show zA l mX12_round false 2 0 0 (fun v' S' w' => v' = some (zI (oGot (w 116) (mP w c) x)) ∧ S' = (ZZ t dr tx) ∧ frm [116, 118, 119] w w' ∧ ∀ o : Int, 0 ≤ o → o < 6 → w' 116 o = w 116 o - oPaid (w 116) (mP w c) x o ∧ w' 118 o = w 118 o + oPaid (w 116) (mP w c) x o) zNo 20 [zR 73, zI c, zI x, zI s, zI o, .null] [zI (if 0 < w 116 o ∧ 0 < mP w c o then 1 else 0), zI s] (ZZ t dr tx) w
        refine zA_if_eq (tgt := 38) dX12_round_20 (by decide) (inR_ite _) (fun c20 => ?_) (fun c20 => ?_)
        · skip
          replace c20 := zite_eq c20
          refine zA_iconst dX12_round_38 ?_
          refine zA_iadd dX12_round_39 ?_
          refine zA_istore_n (lo1 := [zR 73, zI c, zI x, zI (s + 0), zI o, .null]) dX12_round_40 (by decide) rfl rfl ?_
          refine zA_iinc (lo1 := [zR 73, zI c, zI x, zI (s + 0), zI (o + 1), .null]) dX12_round_41 rfl (by decide) rfl rfl ?_
          refine zA_goto (tgt := 5) dX12_round_44 (by decide) ?_
          exact ih5 _ (o + 1) (by omega) (by omega) (by rw [zsucc o0]; simp only [zsum]; rw [zcast o0, hs, (oPaid_0 (x := x) hI o0 (by omega) c20).2]) (by omega)
        · skip
          replace c20 := zite_ne c20
          refine zA_aload_n dX12_round_23 rfl ?_
          refine zA_getR (n := 117) dX12_round_24 fX12_163 c73 rfl ?_
          refine zA_bipush dX12_round_27 rfl ?_
          refine zA_iload_n dX12_round_29 rfl ?_
          refine zA_imul dX12_round_30 ?_
          refine zA_iload dX12_round_31 rfl ?_
          refine zA_iadd dX12_round_33 ?_
          refine zA_iaload dX12_round_34 c117 (by first | assumption | omega) (by first | assumption | omega) (by decide) ?_
          refine zA_goto (tgt := 39) dX12_round_35 (by decide) ?_
          refine zA_iadd dX12_round_39 ?_
          refine zA_istore_n (lo1 := [zR 73, zI c, zI x, zI (s + (w 117 ((6 * c) + o))), zI o, .null]) dX12_round_40 (by decide) rfl rfl ?_
          refine zA_iinc (lo1 := [zR 73, zI c, zI x, zI (s + (w 117 ((6 * c) + o))), zI (o + 1), .null]) dX12_round_41 rfl (by decide) rfl rfl ?_
          refine zA_goto (tgt := 5) dX12_round_44 (by decide) ?_
          exact ih5 _ (o + 1) (by omega) (by omega) (by rw [zsucc o0]; simp only [zsum]; rw [zcast o0, hs, (oPaid_1 (x := x) hI o0 (by omega) c20).2.2]; rfl) (by omega)
  exact L5 _ 0 0 (by omega) (by omega) rfl (Nat.lt_succ_self _)

set_option maxRecDepth 100000 in
set_option maxHeartbeats 4000000 in
theorem m_bill {l : Launch} {t dr tx : Nat} {w : zW} {c x : Int} (hcr : inR c) (hxr : inR x) (hn0 : 0 ≤ w 75 0) (hn : w 75 0 ≤ 12) (hI : ∀ c : Int, 0 ≤ c → c < 12 → okOwn (w 116) (mP w c)) {N : Nat} (hN : 100002 ≤ N) : zSp l mX12_bill false 4 0 0 [zR 73, zI c, zI x] (ZZ t dr tx) w (fun v' S' w' => S' = (ZZ t dr tx) ∧ ((¬ (0 ≤ c ∧ c < w 75 0) ∧ v' = some (zI 0) ∧ w' = up w 73 1 1) ∨ ((0 ≤ c ∧ c < w 75 0) ∧ ¬ (1 ≤ x ∧ x ≤ 99999) ∧ v' = some (zI 0) ∧ w' = up w 73 1 2) ∨ ((0 ≤ c ∧ c < w 75 0) ∧ (1 ≤ x ∧ x ≤ 99999) ∧ ∃ A, zAg (oAll N (mP w c) (w 116) x) A ∧ v' = some (zI A.2.2) ∧ frm [116, 118, 119] (up w 73 1 0) w' ∧ ∀ o : Int, 0 ≤ o → o < 6 → w' 116 o = A.1 o ∧ w' 118 o = A.2.1 o))) zNo := by
  refine zA_intro ⟨plainFor_of_name (by decide +kernel), Or.inl (by decide +kernel)⟩ rfl (Nat.le_of_ble_eq_true rfl) ?_
  refine zA_range (fun hr => ?_)
  show zA l mX12_bill false 4 0 0 (fun v' S' w' => S' = (ZZ t dr tx) ∧ ((¬ (0 ≤ c ∧ c < w 75 0) ∧ v' = some (zI 0) ∧ w' = up w 73 1 1) ∨ ((0 ≤ c ∧ c < w 75 0) ∧ ¬ (1 ≤ x ∧ x ≤ 99999) ∧ v' = some (zI 0) ∧ w' = up w 73 1 2) ∨ ((0 ≤ c ∧ c < w 75 0) ∧ (1 ≤ x ∧ x ≤ 99999) ∧ ∃ A, zAg (oAll N (mP w c) (w 116) x) A ∧ v' = some (zI A.2.2) ∧ frm [116, 118, 119] (up w 73 1 0) w' ∧ ∀ o : Int, 0 ≤ o → o < 6 → w' 116 o = A.1 o ∧ w' 118 o = A.2.1 o))) zNo 0 [zR 73, zI c, zI x, .null, .null, .null] [] (ZZ t dr tx) w
  refine zA_aload_n dX12_bill_0 rfl ?_
  refine zA_iconst dX12_bill_1 ?_
  refine zA_putI dX12_bill_2 fX12_182 c73 rfl ⟨by decide, by decide⟩ ⟨rfl, rfl⟩ ?_
  refine zA_namew (fun w_1 hw_1 => ?_)
  refine zA_range (fun hr => ?_)
  replace hw_1 : w_1 = up w 73 1 0 := hw_1
  have ef : ∀ cc i, cc ≠ 73 → w_1 cc i = w cc i := fun cc i h => by rw [hw_1, up_cell _ _ _ _ h]
  have e75 : w_1 75 0 = w 75 0 := ef 75 0 (by decide)
  refine zA_aload_n dX12_bill_5 rfl ?_
  refine zA_iload_n dX12_bill_6 rfl ?_
  refine zA_cV (st := []) dX12_bill_7 vX12_isChimney kX12_321 (m_isChimney (w := w_1) (c := c) (by first | assumption | exact hr _ _ | exact inR_mk (by omega) (by omega)) (by first | assumption | (simp only [*, up]; omega)) (by first | assumption | (simp only [*, up]; omega))) (by decide) c73 rfl rfl (Nat.le_of_ble_eq_true rfl) rfl (zRt_el ?_)
  show zA l mX12_bill false 4 0 0 (fun v' S' w' => S' = (ZZ t dr tx) ∧ ((¬ (0 ≤ c ∧ c < w 75 0) ∧ v' = some (zI 0) ∧ w' = up w 73 1 1) ∨ ((0 ≤ c ∧ c < w 75 0) ∧ ¬ (1 ≤ x ∧ x ≤ 99999) ∧ v' = some (zI 0) ∧ w' = up w 73 1 2) ∨ ((0 ≤ c ∧ c < w 75 0) ∧ (1 ≤ x ∧ x ≤ 99999) ∧ ∃ A, zAg (oAll N (mP w c) (w 116) x) A ∧ v' = some (zI A.2.2) ∧ frm [116, 118, 119] (up w 73 1 0) w' ∧ ∀ o : Int, 0 ≤ o → o < 6 → w' 116 o = A.1 o ∧ w' 118 o = A.2.1 o))) zNo 10 [zR 73, zI c, zI x, .null, .null, .null] [zI (if 0 ≤ c ∧ c < w_1 75 0 then 1 else 0)] (ZZ t dr tx) w_1
  refine zA_if_ne (tgt := 19) dX12_bill_10 (by decide) (inR_ite _) (fun c10 => ?_) (fun c10 => ?_)
  · skip
    replace c10 := zite_ne c10
    rw [e75] at c10
    have h0 : 0 ≤ c := c10.1
    have h1 : c < 12 := by omega
    have hIc := hI c h0 h1
    refine zA_iload_n dX12_bill_19 rfl ?_
    refine zA_iconst dX12_bill_20 ?_
    refine zA_ldcw dX12_bill_21 qX12_504 ?_
    refine zA_cS (st := []) dX12_bill_24 sX12_isIn kX12_185 (m_isIn (w := w_1) (a := x) (b := 1) (e := 99999) (by first | assumption | exact hr _ _ | exact inR_mk (by omega) (by omega)) ⟨by decide, by decide⟩ ⟨by decide, by decide⟩) (by decide) rfl rfl (Nat.le_of_ble_eq_true rfl) (zRt_el ?_)
    show zA l mX12_bill false 4 0 0 (fun v' S' w' => S' = (ZZ t dr tx) ∧ ((¬ (0 ≤ c ∧ c < w 75 0) ∧ v' = some (zI 0) ∧ w' = up w 73 1 1) ∨ ((0 ≤ c ∧ c < w 75 0) ∧ ¬ (1 ≤ x ∧ x ≤ 99999) ∧ v' = some (zI 0) ∧ w' = up w 73 1 2) ∨ ((0 ≤ c ∧ c < w 75 0) ∧ (1 ≤ x ∧ x ≤ 99999) ∧ ∃ A, zAg (oAll N (mP w c) (w 116) x) A ∧ v' = some (zI A.2.2) ∧ frm [116, 118, 119] (up w 73 1 0) w' ∧ ∀ o : Int, 0 ≤ o → o < 6 → w' 116 o = A.1 o ∧ w' 118 o = A.2.1 o))) zNo 27 [zR 73, zI c, zI x, .null, .null, .null] [zI (if 1 ≤ x ∧ x ≤ 99999 then 1 else 0)] (ZZ t dr tx) w_1
    refine zA_if_ne (tgt := 36) dX12_bill_27 (by decide) (inR_ite _) (fun c27 => ?_) (fun c27 => ?_)
    · skip
      replace c27 := zite_ne c27
      refine zA_iconst dX12_bill_36 ?_
      refine zA_istore_n (lo1 := [zR 73, zI c, zI x, zI 0, .null, .null]) dX12_bill_37 (by decide) rfl rfl ?_
      have L38 : ∀ (z38 : Nat) (o : Int) (w2 : zW) (o0 : 0 ≤ o) (o1 : o ≤ 6) (hf2 : only 118 w_1 w2) (hz : ∀ k : Int, 0 ≤ k → k < o → w2 118 k = 0) (zm : (6 - o).toNat < z38), zA l mX12_bill false 4 0 0 (fun v' S' w' => S' = (ZZ t dr tx) ∧ ((¬ (0 ≤ c ∧ c < w 75 0) ∧ v' = some (zI 0) ∧ w' = up w 73 1 1) ∨ ((0 ≤ c ∧ c < w 75 0) ∧ ¬ (1 ≤ x ∧ x ≤ 99999) ∧ v' = some (zI 0) ∧ w' = up w 73 1 2) ∨ ((0 ≤ c ∧ c < w 75 0) ∧ (1 ≤ x ∧ x ≤ 99999) ∧ ∃ A, zAg (oAll N (mP w c) (w 116) x) A ∧ v' = some (zI A.2.2) ∧ frm [116, 118, 119] (up w 73 1 0) w' ∧ ∀ o : Int, 0 ≤ o → o < 6 → w' 116 o = A.1 o ∧ w' 118 o = A.2.1 o))) zNo 38 [zR 73, zI c, zI x, zI o, .null, .null] [] (ZZ t dr tx) w2 := by
        intro z38
        induction z38 with
        | zero => intro o w2 o0 o1 hf2 hz zm; exact absurd zm (Nat.not_lt_zero _)
        | succ z38 ih38 =>
          intro o w2 o0 o1 hf2 hz zm
          refine zA_range (fun hr => ?_)
          refine zA_iload_n dX12_bill_38 rfl ?_
          refine zA_bipush dX12_bill_39 rfl ?_
          refine zA_icmp_ge (tgt := 57) dX12_bill_41 (by decide) (by first | assumption | exact hr _ _ | exact inR_mk (by omega) (by omega)) ⟨by decide, by decide⟩ (fun c41 => ?_) (fun c41 => ?_)
          · skip
            refine zA_iload_n dX12_bill_57 rfl ?_
            refine zA_istore_n (lo1 := [zR 73, zI c, zI x, zI x, .null, .null]) dX12_bill_58 (by decide) rfl rfl ?_
            refine zA_iconst dX12_bill_59 ?_
            refine zA_istore (lo1 := [zR 73, zI c, zI x, zI x, zI 1, .null]) dX12_bill_60 (by decide) rfl rfl ?_
            have L62 : ∀ (z62 : Nat) (g : Int) (sm : Int) (i : Int) (w3 : zW) (i0 : 0 ≤ i) (g0 : 0 ≤ g) (gx : g ≤ x) (sm0 : 0 ≤ sm) (sm1 : sm ≤ 99999) (hf3 : frm [116, 118, 119] w_1 w3) (hcs : ∀ o : Int, 0 ≤ o → o < 6 → 0 ≤ w3 116 o ∧ 0 ≤ w3 118 o ∧ w3 116 o + w3 118 o = w 116 o) (ha : (0 < sm ∧ i ≤ x - g ∧ zAg (oRun (mP w c) N (w 116) (fun _ => 0) x) (oRun (mP w c) (N - i.toNat) (w3 116) (w3 118) g)) ∨ (sm = 0 ∧ i ≤ x + 1 ∧ zAg (oRun (mP w c) N (w 116) (fun _ => 0) x) (w3 116, w3 118, g))) (zm : (x + 2 - i).toNat < z62), zA l mX12_bill false 4 0 0 (fun v' S' w' => S' = (ZZ t dr tx) ∧ ((¬ (0 ≤ c ∧ c < w 75 0) ∧ v' = some (zI 0) ∧ w' = up w 73 1 1) ∨ ((0 ≤ c ∧ c < w 75 0) ∧ ¬ (1 ≤ x ∧ x ≤ 99999) ∧ v' = some (zI 0) ∧ w' = up w 73 1 2) ∨ ((0 ≤ c ∧ c < w 75 0) ∧ (1 ≤ x ∧ x ≤ 99999) ∧ ∃ A, zAg (oAll N (mP w c) (w 116) x) A ∧ v' = some (zI A.2.2) ∧ frm [116, 118, 119] (up w 73 1 0) w' ∧ ∀ o : Int, 0 ≤ o → o < 6 → w' 116 o = A.1 o ∧ w' 118 o = A.2.1 o))) zNo 62 [zR 73, zI c, zI x, zI g, zI sm, .null] [] (ZZ t dr tx) w3 := by
              intro z62
              induction z62 with
              | zero => intro g sm i w3 i0 g0 gx sm0 sm1 hf3 hcs ha zm; exact absurd zm (Nat.not_lt_zero _)
              | succ z62 ih62 =>
                intro g sm i w3 i0 g0 gx sm0 sm1 hf3 hcs ha zm
                refine zA_range (fun hr => ?_)
                have hcp : mP w3 c = mP w c := mP_fr (fun i => (hf3 117 i (by decide)).trans (ef 117 i (by decide)))
                have hok : okOwn (w3 116) (mP w c) := fun o a b => ⟨by have := hcs o a b; have := hIc o a b; omega, (hIc o a b).2⟩
                refine zA_iload dX12_bill_62 rfl ?_
                refine zA_if_le (tgt := 83) dX12_bill_64 (by decide) (by first | assumption | exact hr _ _ | exact inR_mk (by omega) (by omega)) (fun c64 => ?_) (fun c64 => ?_)
                · skip
                  have hend : zAg (oRun (mP w c) N (w 116) (fun _ => 0) x) (w3 116, w3 118, g) := by
                    rcases ha with ⟨h, _⟩ | ⟨_, _, h⟩
                    · omega
                    · exact h
                  refine zA_iconst dX12_bill_83 ?_
                  refine zA_istore (lo1 := [zR 73, zI c, zI x, zI g, zI sm, zI 0]) dX12_bill_84 (by decide) rfl rfl ?_
                  refine zA_drop 4 (lo1 := [zR 73, zI c, zI x, zI g, .null, zI 0]) rfl ?_
                  have L86 : ∀ (z86 : Nat) (h : Int) (o : Int) (w4 : zW) (o0 : 0 ≤ o) (o1 : o ≤ 6) (hg : h = (oOnes (mP w c) o.toNat (w3 116) (w3 118) g).2.2) (hf4 : frm [116, 118, 119] w_1 w4) (hd : ∀ k : Int, 0 ≤ k → k < 6 → w4 116 k = (oOnes (mP w c) o.toNat (w3 116) (w3 118) g).1 k ∧ w4 118 k = (oOnes (mP w c) o.toNat (w3 116) (w3 118) g).2.1 k) (zm : (6 - o).toNat < z86), zA l mX12_bill false 4 0 0 (fun v' S' w' => S' = (ZZ t dr tx) ∧ ((¬ (0 ≤ c ∧ c < w 75 0) ∧ v' = some (zI 0) ∧ w' = up w 73 1 1) ∨ ((0 ≤ c ∧ c < w 75 0) ∧ ¬ (1 ≤ x ∧ x ≤ 99999) ∧ v' = some (zI 0) ∧ w' = up w 73 1 2) ∨ ((0 ≤ c ∧ c < w 75 0) ∧ (1 ≤ x ∧ x ≤ 99999) ∧ ∃ A, zAg (oAll N (mP w c) (w 116) x) A ∧ v' = some (zI A.2.2) ∧ frm [116, 118, 119] (up w 73 1 0) w' ∧ ∀ o : Int, 0 ≤ o → o < 6 → w' 116 o = A.1 o ∧ w' 118 o = A.2.1 o))) zNo 86 [zR 73, zI c, zI x, zI h, .null, zI o] [] (ZZ t dr tx) w4 := by
                    intro z86
                    induction z86 with
                    | zero => intro h o w4 o0 o1 hg hf4 hd zm; exact absurd zm (Nat.not_lt_zero _)
                    | succ z86 ih86 =>
                      intro h o w4 o0 o1 hg hf4 hd zm
                      refine zA_range (fun hr => ?_)
                      have hgb := oOnes_b (mP w c) (w3 116) (w3 118) g g0 o.toNat
                      rw [← hg] at hgb
                      refine zA_iload dX12_bill_86 rfl ?_
                      refine zA_bipush dX12_bill_88 rfl ?_
                      refine zA_icmp_ge (tgt := 126) dX12_bill_90 (by decide) (by first | assumption | exact hr _ _ | exact inR_mk (by omega) (by omega)) ⟨by decide, by decide⟩ (fun c90 => ?_) (fun c90 => ?_)
                      · skip
                        refine zA_iload_n dX12_bill_126 rfl ?_
                        refine zA_iret dX12_bill_127 rfl ?_
                        have hst : zAg (oOnes (mP w c) 6 (w3 116) (w3 118) g) (oOnes (mP w c) o.toNat (w3 116) (w3 118) g) := by
                          first
                          | (rw [show (6 : Nat) = o.toNat by omega]; exact zAg_rfl)
                          | (have h := oOnes_stop (mP w c) (w3 116) (w3 118) g o.toNat (by omega) (6 - o.toNat)
                             rw [show o.toNat + (6 - o.toNat) = 6 by omega] at h
                             rw [h]; exact zAg_rfl)
                        exact ⟨rfl, Or.inr (Or.inr ⟨by omega, by omega, _, zAg_tr (oEnd hend) hst, by rw [hg], by rw [← hw_1]; exact hf4, hd⟩)⟩
                      · skip
                        refine zA_iload_n dX12_bill_93 rfl ?_
                        refine zA_if_le (tgt := 126) dX12_bill_94 (by decide) (by first | assumption | exact hr _ _ | exact inR_mk (by omega) (by omega)) (fun c94 => ?_) (fun c94 => ?_)
                        · skip
                          refine zA_iload_n dX12_bill_126 rfl ?_
                          refine zA_iret dX12_bill_127 rfl ?_
                          have hst : zAg (oOnes (mP w c) 6 (w3 116) (w3 118) g) (oOnes (mP w c) o.toNat (w3 116) (w3 118) g) := by
                            first
                            | (rw [show (6 : Nat) = o.toNat by omega]; exact zAg_rfl)
                            | (have h := oOnes_stop (mP w c) (w3 116) (w3 118) g o.toNat (by omega) (6 - o.toNat)
                               rw [show o.toNat + (6 - o.toNat) = 6 by omega] at h
                               rw [h]; exact zAg_rfl)
                          exact ⟨rfl, Or.inr (Or.inr ⟨by omega, by omega, _, zAg_tr (oEnd hend) hst, by rw [hg], by rw [← hw_1]; exact hf4, hd⟩)⟩
                        · skip
                          have hh := oOnes_hi (mP w c) (w3 116) (w3 118) g o.toNat o (by omega)
                          have hdo := hd o o0 (by omega)
                          have hcso := hcs o o0 (by omega)
                          have hcp4 : mP w4 c = mP w c := mP_fr (fun i => (hf4 117 i (by decide)).trans (ef 117 i (by decide)))
                          have hef : 0 < oEff (w3 116) (mP w c) o ↔ (0 < w4 116 o ∧ 0 < mP w c o) := by
                            have a := hdo.1.trans hh.1
                            have b := (hok o o0 (by omega)).2
                            unfold oEff
                            rw [a]
                            split <;> omega
                          have hio := hIc o o0 (by omega)
                          refine zA_aload_n dX12_bill_97 rfl ?_
                          refine zA_iload_n dX12_bill_98 rfl ?_
                          refine zA_iload dX12_bill_99 rfl ?_
                          refine zA_cV (st := []) dX12_bill_101 vX12_isPaying kX12_498 (m_isPaying (w := w4) (c := c) (o := o) h0 h1 o0 (by omega)) (by decide) c73 rfl rfl (Nat.le_of_ble_eq_true rfl) rfl (zRt_el ?_)
                          show zA l mX12_bill false 4 0 0 (fun v' S' w' => S' = (ZZ t dr tx) ∧ ((¬ (0 ≤ c ∧ c < w 75 0) ∧ v' = some (zI 0) ∧ w' = up w 73 1 1) ∨ ((0 ≤ c ∧ c < w 75 0) ∧ ¬ (1 ≤ x ∧ x ≤ 99999) ∧ v' = some (zI 0) ∧ w' = up w 73 1 2) ∨ ((0 ≤ c ∧ c < w 75 0) ∧ (1 ≤ x ∧ x ≤ 99999) ∧ ∃ A, zAg (oAll N (mP w c) (w 116) x) A ∧ v' = some (zI A.2.2) ∧ frm [116, 118, 119] (up w 73 1 0) w' ∧ ∀ o : Int, 0 ≤ o → o < 6 → w' 116 o = A.1 o ∧ w' 118 o = A.2.1 o))) zNo 104 [zR 73, zI c, zI x, zI h, .null, zI o] [zI (if 0 < w4 116 o ∧ 0 < mP w4 c o then 1 else 0)] (ZZ t dr tx) w4
                          refine zA_if_ne (tgt := 110) dX12_bill_104 (by decide) (inR_ite _) (fun c104 => ?_) (fun c104 => ?_)
                          · skip
                            replace c104 := zite_ne c104
                            rw [hcp4] at c104
                            refine zA_aload_n dX12_bill_110 rfl ?_
                            refine zA_iload dX12_bill_111 rfl ?_
                            refine zA_iconst dX12_bill_113 ?_
                            refine zA_cV (st := []) dX12_bill_114 vX12_pay kX12_501 (m_pay (w := w4) (o := o) (u := 1) o0 (by omega) (by decide) (by omega) (by omega) (by omega) (by omega)) (by decide) c73 rfl rfl (Nat.le_of_ble_eq_true rfl) rfl (zRt_el ?_)
                            show zA l mX12_bill false 4 0 0 (fun v' S' w' => S' = (ZZ t dr tx) ∧ ((¬ (0 ≤ c ∧ c < w 75 0) ∧ v' = some (zI 0) ∧ w' = up w 73 1 1) ∨ ((0 ≤ c ∧ c < w 75 0) ∧ ¬ (1 ≤ x ∧ x ≤ 99999) ∧ v' = some (zI 0) ∧ w' = up w 73 1 2) ∨ ((0 ≤ c ∧ c < w 75 0) ∧ (1 ≤ x ∧ x ≤ 99999) ∧ ∃ A, zAg (oAll N (mP w c) (w 116) x) A ∧ v' = some (zI A.2.2) ∧ frm [116, 118, 119] (up w 73 1 0) w' ∧ ∀ o : Int, 0 ≤ o → o < 6 → w' 116 o = A.1 o ∧ w' 118 o = A.2.1 o))) zNo 117 [zR 73, zI c, zI x, zI h, .null, zI o] [] (ZZ t dr tx) (up (up w4 116 o (w4 116 o - 1)) 118 o (w4 118 o + 1))
                            refine zA_iinc (lo1 := [zR 73, zI c, zI x, zI (h + (-1)), .null, zI o]) dX12_bill_117 rfl (by decide) rfl rfl ?_
                            refine zA_iinc (lo1 := [zR 73, zI c, zI x, zI (h + (-1)), .null, zI (o + 1)]) dX12_bill_120 rfl (by decide) rfl rfl ?_
                            refine zA_goto (tgt := 86) dX12_bill_123 (by decide) ?_
                            exact ih86 _ (o + 1) _ (by omega) (by omega) (by rw [zsucc o0]; simp only [oOnes]; rw [if_pos ⟨by omega, by rw [zcast o0]; omega⟩]; show _ = (oOnes (mP w c) o.toNat (w3 116) (w3 118) g).2.2 - 1; omega) (frm_up (frm_up hf4 (by decide)) (by decide)) (fun k h1 h2 => by
                                        rw [zsucc o0]; simp only [oOnes]; rw [if_pos ⟨by omega, by rw [zcast o0]; omega⟩]
                                        by_cases hk : k = o
                                        · subst hk
                                          rw [up_cell _ _ _ _ (by decide : (116 : Nat) ≠ 118), up_same, up_same]
                                          refine ⟨?_, ?_⟩
                                          · show _ = (if k = ((k.toNat : Nat) : Int) then _ else _)
                                            rw [if_pos (by omega)]; have := (hd k h1 h2).1; omega
                                          · show _ = (if k = ((k.toNat : Nat) : Int) then _ else _)
                                            rw [if_pos (by omega)]; have := (hd k h1 h2).2; omega
                                        · rw [up_cell _ _ _ _ (by decide : (116 : Nat) ≠ 118), up_idx _ _ _ _ hk, up_idx _ _ _ _ hk, up_cell _ _ _ _ (by decide : (118 : Nat) ≠ 116)]
                                          refine ⟨?_, ?_⟩
                                          · show _ = (if k = ((o.toNat : Nat) : Int) then _ else _)
                                            rw [if_neg (by omega)]; exact (hd k h1 h2).1
                                          · show _ = (if k = ((o.toNat : Nat) : Int) then _ else _)
                                            rw [if_neg (by omega)]; exact (hd k h1 h2).2) (by omega)
                          · skip
                            replace c104 := zite_eq c104
                            rw [hcp4] at c104
                            refine zA_goto (tgt := 120) dX12_bill_107 (by decide) ?_
                            refine zA_iinc (lo1 := [zR 73, zI c, zI x, zI h, .null, zI (o + 1)]) dX12_bill_120 rfl (by decide) rfl rfl ?_
                            refine zA_goto (tgt := 86) dX12_bill_123 (by decide) ?_
                            exact ih86 _ (o + 1) _ (by omega) (by omega) (by rw [zsucc o0]; simp only [oOnes]; rw [if_neg (by rw [zcast o0]; omega)]; exact hg) hf4 (fun k h1 h2 => by
                                        rw [zsucc o0]; simp only [oOnes]; rw [if_neg (by rw [zcast o0]; omega)]; exact hd k h1 h2) (by omega)
                  exact L86 _ g 0 w3 (by omega) (by omega) rfl hf3 (fun k a b => ⟨rfl, rfl⟩) (Nat.lt_succ_self _)
                · skip
                  have hh : i ≤ x - g ∧ zAg (oRun (mP w c) N (w 116) (fun _ => 0) x) (oRun (mP w c) (N - i.toNat) (w3 116) (w3 118) g) := by
                    rcases ha with ⟨_, h⟩ | ⟨h, _⟩
                    · exact h
                    · omega
                  refine zA_aload_n dX12_bill_67 rfl ?_
                  refine zA_iload_n dX12_bill_68 rfl ?_
                  refine zA_iload_n dX12_bill_69 rfl ?_
                  refine zA_cV (st := []) dX12_bill_70 vX12_round kX12_505 (m_round (w := w3) (c := c) (x := g) (by rw [hcp]; exact hok) h0 h1 g0 (by omega) (fun o a b => by have := hcs o a b; have := hIc o a b; omega)) (by decide) c73 rfl rfl (Nat.le_of_ble_eq_true rfl) rfl (fun q_2_v q_2_S q_2_w q_2 => ?_)
                  obtain ⟨rfl, rfl, hga, hgb⟩ := q_2
                  rw [hcp] at hgb ⊢
                  have hgo := oGot_b (p := mP w c) (x := g) hok g0
                  refine zA_range (fun hr => ?_)
                  show zA l mX12_bill false 4 0 0 (fun v' S' w' => S' = (ZZ t dr tx) ∧ ((¬ (0 ≤ c ∧ c < w 75 0) ∧ v' = some (zI 0) ∧ w' = up w 73 1 1) ∨ ((0 ≤ c ∧ c < w 75 0) ∧ ¬ (1 ≤ x ∧ x ≤ 99999) ∧ v' = some (zI 0) ∧ w' = up w 73 1 2) ∨ ((0 ≤ c ∧ c < w 75 0) ∧ (1 ≤ x ∧ x ≤ 99999) ∧ ∃ A, zAg (oAll N (mP w c) (w 116) x) A ∧ v' = some (zI A.2.2) ∧ frm [116, 118, 119] (up w 73 1 0) w' ∧ ∀ o : Int, 0 ≤ o → o < 6 → w' 116 o = A.1 o ∧ w' 118 o = A.2.1 o))) zNo 73 [zR 73, zI c, zI x, zI g, zI sm, .null] [zI (oGot (w3 116) (mP w c) g)] (ZZ t dr tx) q_2_w
                  refine zA_istore (lo1 := [zR 73, zI c, zI x, zI g, zI (oGot (w3 116) (mP w c) g), .null]) dX12_bill_73 (by decide) rfl rfl ?_
                  refine zA_iload_n dX12_bill_75 rfl ?_
                  refine zA_iload dX12_bill_76 rfl ?_
                  refine zA_isub dX12_bill_78 ?_
                  refine zA_istore_n (lo1 := [zR 73, zI c, zI x, zI (g - (oGot (w3 116) (mP w c) g)), zI (oGot (w3 116) (mP w c) g), .null]) dX12_bill_79 (by decide) rfl rfl ?_
                  refine zA_goto (tgt := 62) dX12_bill_80 (by decide) ?_
                  exact ih62 (g - oGot (w3 116) (mP w c) g) (oGot (w3 116) (mP w c) g) (i + 1) _ (by omega) (by omega) (by omega) (by omega) (by omega) (frm_tr hf3 hga (fun _ h => h) (fun _ h => h)) (fun o a b => by have := hgb o a b; have := hcs o a b; have := oPaid_b (x := g) hok g0 a b; omega) (by
                              by_cases hz0 : oGot (w3 116) (mP w c) g = 0
                              · refine Or.inr ⟨hz0, by omega, zAg_tr hh.2 (zAg_tr (oRun_1 (k := N - (i + 1).toNat) (by omega) hz0) ⟨by show g = g - _; omega, fun o a b => ?_⟩)⟩
                                have e0 := oGot_0 hok g0 a b hz0
                                have e1 := hgb o a b
                                refine ⟨?_, ?_⟩
                                · show w3 116 o = q_2_w 116 o; omega
                                · show w3 118 o = q_2_w 118 o; omega
                              · exact Or.inl ⟨by omega, by omega, zAg_tr hh.2 (oRun_2 (k := N - (i + 1).toNat) (by omega) hz0 hgb)⟩) (by omega)
            exact L62 _ x 1 0 _ (by omega) (by omega) (by omega) (by omega) (by omega) (frm_mono (only_frm hf2) (by decide)) (fun o a b => by rw [hz o a (by omega), hf2 116 o (by decide), ef 116 o (by decide)]; have := hIc o a b; omega) (Or.inl ⟨by decide, by omega, oRun_c _ _ _ _ _ _ (fun o a b => by rw [hz o a (by omega), hf2 116 o (by decide), ef 116 o (by decide)]; exact ⟨rfl, rfl⟩)⟩) (Nat.lt_succ_self _)
          · skip
            refine zA_aload_n dX12_bill_44 rfl ?_
            refine zA_getR (n := 118) dX12_bill_45 fX12_166 c73 rfl ?_
            refine zA_iload_n dX12_bill_48 rfl ?_
            refine zA_iconst dX12_bill_49 ?_
            refine zA_iastore dX12_bill_50 ⟨by decide, by decide⟩ c118 (by first | assumption | omega) (by first | assumption | omega) (by decide) ?_
            refine zA_namew (fun w_3 hw_3 => ?_)
            refine zA_range (fun hr => ?_)
            replace hw_3 : w_3 = up w2 118 o 0 := hw_3
            refine zA_iinc (lo1 := [zR 73, zI c, zI x, zI (o + 1), .null, .null]) dX12_bill_51 rfl (by decide) rfl rfl ?_
            refine zA_goto (tgt := 38) dX12_bill_54 (by decide) ?_
            exact ih38 (o + 1) _ (by omega) (by omega) (by rw [hw_3]; exact only_up hf2) (fun k a b => by
                        rw [hw_3]
                        by_cases hk : k = o
                        · subst hk; rw [up_same]
                        · rw [up_idx _ _ _ _ hk]; exact hz k a (by omega)) (by omega)
      exact L38 _ 0 w_1 (by omega) (by omega) only_rfl (fun k a b => by omega) (Nat.lt_succ_self _)
    · skip
      replace c27 := zite_eq c27
      refine zA_aload_n dX12_bill_30 rfl ?_
      refine zA_iconst dX12_bill_31 ?_
      refine zA_cV (st := []) dX12_bill_32 vX12_fail kX12_292 (m_fail (w := w_1) (k := 2) ⟨by decide, by decide⟩) (by decide) c73 rfl rfl (Nat.le_of_ble_eq_true rfl) rfl (zRt_el ?_)
      show zA l mX12_bill false 4 0 0 (fun v' S' w' => S' = (ZZ t dr tx) ∧ ((¬ (0 ≤ c ∧ c < w 75 0) ∧ v' = some (zI 0) ∧ w' = up w 73 1 1) ∨ ((0 ≤ c ∧ c < w 75 0) ∧ ¬ (1 ≤ x ∧ x ≤ 99999) ∧ v' = some (zI 0) ∧ w' = up w 73 1 2) ∨ ((0 ≤ c ∧ c < w 75 0) ∧ (1 ≤ x ∧ x ≤ 99999) ∧ ∃ A, zAg (oAll N (mP w c) (w 116) x) A ∧ v' = some (zI A.2.2) ∧ frm [116, 118, 119] (up w 73 1 0) w' ∧ ∀ o : Int, 0 ≤ o → o < 6 → w' 116 o = A.1 o ∧ w' 118 o = A.2.1 o))) zNo 35 [zR 73, zI c, zI x, .null, .null, .null] [zI 0] (ZZ t dr tx) (up w_1 73 1 2)
      refine zA_iret dX12_bill_35 rfl ?_
      exact ⟨rfl, Or.inr (Or.inl ⟨by omega, by omega, rfl, by rw [hw_1, up_up]⟩)⟩
  · skip
    replace c10 := zite_eq c10
    rw [e75] at c10
    refine zA_aload_n dX12_bill_13 rfl ?_
    refine zA_iconst dX12_bill_14 ?_
    refine zA_cV (st := []) dX12_bill_15 vX12_fail kX12_292 (m_fail (w := w_1) (k := 1) ⟨by decide, by decide⟩) (by decide) c73 rfl rfl (Nat.le_of_ble_eq_true rfl) rfl (zRt_el ?_)
    show zA l mX12_bill false 4 0 0 (fun v' S' w' => S' = (ZZ t dr tx) ∧ ((¬ (0 ≤ c ∧ c < w 75 0) ∧ v' = some (zI 0) ∧ w' = up w 73 1 1) ∨ ((0 ≤ c ∧ c < w 75 0) ∧ ¬ (1 ≤ x ∧ x ≤ 99999) ∧ v' = some (zI 0) ∧ w' = up w 73 1 2) ∨ ((0 ≤ c ∧ c < w 75 0) ∧ (1 ≤ x ∧ x ≤ 99999) ∧ ∃ A, zAg (oAll N (mP w c) (w 116) x) A ∧ v' = some (zI A.2.2) ∧ frm [116, 118, 119] (up w 73 1 0) w' ∧ ∀ o : Int, 0 ≤ o → o < 6 → w' 116 o = A.1 o ∧ w' 118 o = A.2.1 o))) zNo 18 [zR 73, zI c, zI x, .null, .null, .null] [zI 0] (ZZ t dr tx) (up w_1 73 1 1)
    refine zA_iret dX12_bill_18 rfl ?_
    exact ⟨rfl, Or.inl ⟨by omega, rfl, by rw [hw_1, up_up]⟩⟩

