/-! owners: a bill in rounds. m: means, p: parts, q: what was paid; all by owner 0 .. 5 -/
def oEff (m p : Int → Int) (o : Int) : Int := if 0 < m o then p o else 0
def oTog (m p : Int → Int) : Int := zsum 6 (fun k => oEff m p k)
def oShare (m p : Int → Int) (x o : Int) : Int := min (m o) (x * oEff m p o / oTog m p)
def oGot (m p : Int → Int) (x : Int) : Int := if oTog m p ≤ 0 then 0 else zsum 6 (fun k => oShare m p x k)
def okOwn (m p : Int → Int) : Prop := ∀ o : Int, 0 ≤ o → o < 6 → (0 ≤ m o ∧ m o ≤ 9999) ∧ (0 ≤ p o ∧ p o ≤ 100)
theorem oEff_b {m p : Int → Int} {o : Int} (h : okOwn m p) (h0 : 0 ≤ o) (h1 : o < 6) : 0 ≤ oEff m p o ∧ oEff m p o ≤ 100 := by
  have := h o h0 h1
  unfold oEff
  split <;> omega
theorem oTog_b {m p : Int → Int} (h : okOwn m p) (k : Nat) (hk : k ≤ 6) : 0 ≤ zsum k (fun k => oEff m p k) ∧ zsum k (fun k => oEff m p k) ≤ 600 := by
  have := zsum_b (f := fun k : Nat => oEff m p k) (B := 100) k (fun j hj => oEff_b h (by omega) (by omega))
  omega
theorem oShare_b {m p : Int → Int} {x o : Int} (h : okOwn m p) (hx : 0 ≤ x) (h0 : 0 ≤ o) (h1 : o < 6) (ht : 0 < oTog m p) : 0 ≤ oShare m p x o ∧ oShare m p x o ≤ m o := by
  have h2 := oEff_b h h0 h1
  have h3 : 0 ≤ x * oEff m p o / oTog m p := Int.ediv_nonneg (Int.mul_nonneg hx h2.1) (by omega)
  have h4 := h o h0 h1
  unfold oShare
  omega
theorem zsum_le {f g : Nat → Int} (n : Nat) (h : ∀ k, k < n → f k ≤ g k) : zsum n f ≤ zsum n g := by
  induction n with
  | zero => exact Int.le_refl _
  | succ n ih => simp only [zsum]; have := ih (fun k hk => h k (by omega)); have := h n (by omega); omega
/-- what one round pays is no more than what is wanting -/
theorem oGot_b {m p : Int → Int} {x : Int} (h : okOwn m p) (hx : 0 ≤ x) : 0 ≤ oGot m p x ∧ oGot m p x ≤ x := by
  unfold oGot
  split
  · omega
  · rename_i ht
    have ht : 0 < oTog m p := by omega
    have h1 : ∀ k : Nat, k < 6 → 0 ≤ oShare m p x k ∧ oShare m p x k ≤ x * oEff m p k / oTog m p := fun k hk => ⟨(oShare_b h hx (by omega) (by omega) ht).1, by unfold oShare; omega⟩
    have key : ∀ n : Nat, n ≤ 6 → 0 ≤ zsum n (fun k => oShare m p x k) ∧ zsum n (fun k => oShare m p x k) * oTog m p ≤ x * zsum n (fun k => oEff m p k) := by
      intro n
      induction n with
      | zero => intro _; simp [zsum]
      | succ n ih =>
        intro hn
        obtain ⟨i1, i2⟩ := ih (by omega)
        obtain ⟨j1, j2⟩ := h1 n (by omega)
        simp only [zsum]
        refine ⟨by omega, ?_⟩
        have e1 : x * oEff m p n / oTog m p * oTog m p ≤ x * oEff m p n := Int.ediv_mul_le _ (by omega)
        have e2 : oShare m p x n * oTog m p ≤ x * oEff m p n / oTog m p * oTog m p := Int.mul_le_mul_of_nonneg_right j2 (by omega)
        rw [Int.add_mul, Int.mul_add]
        omega
    obtain ⟨k1, k2⟩ := key 6 (Nat.le_refl _)
    refine ⟨k1, ?_⟩
    have k3 : zsum 6 (fun k => oShare m p x k) * oTog m p ≤ x * oTog m p := k2
    exact Int.le_of_mul_le_mul_right k3 ht
def oPaid (m p : Int → Int) (x : Int) (o : Int) : Int := if oTog m p ≤ 0 then 0 else oShare m p x o
/-- rounds till nobody pays: what is left of the means, what was paid, what is wanting -/
def oRun (p : Int → Int) : Nat → (Int → Int) → (Int → Int) → Int → (Int → Int) × (Int → Int) × Int
  | 0, m, q, x => (m, q, x)
  | n + 1, m, q, x => if oGot m p x = 0 then (m, q, x) else oRun p n (fun o => m o - oPaid m p x o) (fun o => q o + oPaid m p x o) (x - oGot m p x)
/-- then each pays one, from owner 0 on -/
def oOnes (p : Int → Int) : Nat → (Int → Int) → (Int → Int) → Int → (Int → Int) × (Int → Int) × Int
  | 0, m, q, x => (m, q, x)
  | n + 1, m, q, x => if 0 < (oOnes p n m q x).2.2 ∧ 0 < oEff m p n then (fun o => if o = n then (oOnes p n m q x).1 o - 1 else (oOnes p n m q x).1 o, fun o => if o = n then (oOnes p n m q x).2.1 o + 1 else (oOnes p n m q x).2.1 o, (oOnes p n m q x).2.2 - 1) else oOnes p n m q x
def cP (w : zW) (c : Int) : Int → Int := fun o => w 71 (c * 6 + o)
theorem oTog_c {m m' p p' : Int → Int} (k : Nat) (hm : ∀ o : Int, 0 ≤ o → o < k → m' o = m o) (hp : ∀ o : Int, 0 ≤ o → o < k → p' o = p o) : zsum k (fun j => oEff m' p' j) = zsum k (fun j => oEff m p j) := zsum_c k (fun j hj => by unfold oEff; rw [hm j (by omega) (by omega), hp j (by omega) (by omega)])
set_option maxRecDepth 100000 in
set_option maxHeartbeats 4000000 in
theorem s_partOf {l : Launch} {t dr tx : Nat} {w : zW} {gr : Bool} {c o : Int} (h0 : 0 ≤ c) (h1 : c < 12) (o0 : 0 ≤ o) (o1 : o < 6) : zSp l mX5_partOf gr 1 0 0 [zR 69, zI c, zI o] (ZZ t dr tx) w (zRt (some (zI (oEff (w 70) (cP w c) o))) (ZZ t dr tx) w) zNo := by
  refine zA_intro ⟨plainFor_of_name (by decide +kernel), Or.inl (by decide +kernel)⟩ rfl (Nat.le_of_ble_eq_true rfl) ?_
  refine zA_range (fun hr => ?_)
  show zA l mX5_partOf gr 1 0 0 (zRt (some (zI (oEff (w 70) (cP w c) o))) (ZZ t dr tx) w) zNo 0 [zR 69, zI c, zI o] [] (ZZ t dr tx) w
  refine zA_aload_n dX5_partOf_0 rfl ?_
  refine zA_getR (n := 70) dX5_partOf_1 fX5_11 c69 rfl ?_
  refine zA_iload_n dX5_partOf_4 rfl ?_
  refine zA_iaload dX5_partOf_5 c70 (by first | assumption | omega) (by first | assumption | omega) (by decide) ?_
  refine zA_if_le (tgt := 23) dX5_partOf_6 (by decide) (by first | assumption | exact hr _ _ | exact inR_mk (by omega) (by omega)) (fun c6 => ?_) (fun c6 => ?_)
  · skip
    refine zA_iconst dX5_partOf_23 ?_
    refine zA_iret dX5_partOf_24 rfl ?_
    exact zRt_i (by unfold oEff cP; split <;> first | rfl | omega)
  · skip
    refine zA_aload_n dX5_partOf_9 rfl ?_
    refine zA_getR (n := 71) dX5_partOf_10 fX5_15 c69 rfl ?_
    refine zA_iload_n dX5_partOf_13 rfl ?_
    refine zA_bipush dX5_partOf_14 rfl ?_
    refine zA_imul dX5_partOf_16 ?_
    refine zA_iload_n dX5_partOf_17 rfl ?_
    refine zA_iadd dX5_partOf_18 ?_
    refine zA_iaload dX5_partOf_19 c71 (by first | assumption | omega) (by first | assumption | omega) (by decide) ?_
    refine zA_goto (tgt := 24) dX5_partOf_20 (by decide) ?_
    refine zA_iret dX5_partOf_24 rfl ?_
    exact zRt_i (by unfold oEff cP; split <;> first | rfl | omega)

set_option maxRecDepth 100000 in
set_option maxHeartbeats 4000000 in
theorem s_pay {l : Launch} {t dr tx : Nat} {w : zW} {gr : Bool} {o u : Int} (o0 : 0 ≤ o) (o1 : o < 6) (hu0 : 0 ≤ u) (hu : u ≤ w 70 o) (hm : w 70 o ≤ 9999) (hq0 : 0 ≤ w 72 o) (hq : w 72 o ≤ 1000000) : zSp l mX5_pay gr 1 0 0 [zR 69, zI o, zI u] (ZZ t dr tx) w (zRt none (ZZ t dr tx) (up (up w 70 o (w 70 o - u)) 72 o (w 72 o + u))) zNo := by
  refine zA_intro ⟨plainFor_of_name (by decide +kernel), Or.inl (by decide +kernel)⟩ rfl (Nat.le_of_ble_eq_true rfl) ?_
  refine zA_range (fun hr => ?_)
  show zA l mX5_pay gr 1 0 0 (zRt none (ZZ t dr tx) (up (up w 70 o (w 70 o - u)) 72 o (w 72 o + u))) zNo 0 [zR 69, zI o, zI u] [] (ZZ t dr tx) w
  refine zA_aload_n dX5_pay_0 rfl ?_
  refine zA_getR (n := 70) dX5_pay_1 fX5_11 c69 rfl ?_
  refine zA_iload_n dX5_pay_4 rfl ?_
  refine zA_dup2 dX5_pay_5 rfl rfl ?_
  refine zA_iaload dX5_pay_6 c70 (by first | assumption | omega) (by first | assumption | omega) (by decide) ?_
  refine zA_iload_n dX5_pay_7 rfl ?_
  refine zA_isub dX5_pay_8 ?_
  refine zA_iastore dX5_pay_9 (by first | assumption | exact hr _ _ | exact inR_mk (by omega) (by omega)) c70 (by first | assumption | omega) (by first | assumption | omega) (by decide) ?_
  refine zA_namew (fun w_1 hw_1 => ?_)
  refine zA_range (fun hr => ?_)
  have e1 : w_1 72 o = w 72 o := by rw [hw_1, up_cell _ _ _ _ (by decide : (72 : Nat) ≠ 70)]
  refine zA_aload_n dX5_pay_10 rfl ?_
  refine zA_getR (n := 72) dX5_pay_11 fX5_18 c69 rfl ?_
  refine zA_iload_n dX5_pay_14 rfl ?_
  refine zA_dup2 dX5_pay_15 rfl rfl ?_
  refine zA_iaload dX5_pay_16 c72 (by first | assumption | omega) (by first | assumption | omega) (by decide) ?_
  refine zA_iload_n dX5_pay_17 rfl ?_
  refine zA_iadd dX5_pay_18 ?_
  refine zA_iastore dX5_pay_19 (by first | assumption | exact hr _ _ | exact inR_mk (by omega) (by omega)) c72 (by first | assumption | omega) (by first | assumption | omega) (by decide) ?_
  refine zA_namew (fun w_2 hw_2 => ?_)
  refine zA_range (fun hr => ?_)
  refine zA_vret dX5_pay_20 rfl ?_
  rw [hw_2, hw_1, up_cell _ _ _ _ (by decide : (72 : Nat) ≠ 70)]
  exact ⟨rfl, rfl, rfl⟩

theorem zsucc {o : Int} (h : 0 ≤ o) : (o + 1).toNat = o.toNat + 1 := by omega
theorem zcast {o : Int} (h : 0 ≤ o) : ((o.toNat : Nat) : Int) = o := by omega
theorem oEff_fr {m m' p p' : Int → Int} {o : Int} (hm : m' o = m o) (hp : p' o = p o) : oEff m' p' o = oEff m p o := by unfold oEff; rw [hm, hp]
theorem cP_fr {w w' : zW} {c : Int} (h : ∀ i, w' 71 i = w 71 i) : cP w' c = cP w c := funext fun o => h _
set_option maxRecDepth 100000 in
set_option maxHeartbeats 4000000 in
theorem s_payRound {l : Launch} {t dr tx : Nat} {w : zW} {gr : Bool} {c x : Int} (hI : okOwn (w 70) (cP w c)) (h0 : 0 ≤ c) (h1 : c < 12) (hx0 : 0 ≤ x) (hx : x ≤ 99999) (hq : ∀ o : Int, 0 ≤ o → o < 6 → 0 ≤ w 72 o ∧ w 72 o ≤ 500000) : zSp l mX5_payRound gr 2 0 0 [zR 69, zI c, zI x] (ZZ t dr tx) w (fun v' S' w' => v' = some (zI (oGot (w 70) (cP w c) x)) ∧ S' = (ZZ t dr tx) ∧ frm [70, 72] w w' ∧ ∀ o : Int, 0 ≤ o → o < 6 → w' 70 o = w 70 o - oPaid (w 70) (cP w c) x o ∧ w' 72 o = w 72 o + oPaid (w 70) (cP w c) x o) zNo := by
  refine zA_intro ⟨plainFor_of_name (by decide +kernel), Or.inl (by decide +kernel)⟩ rfl (Nat.le_of_ble_eq_true rfl) ?_
  refine zA_range (fun hr => ?_)
  show zA l mX5_payRound gr 2 0 0 (fun v' S' w' => v' = some (zI (oGot (w 70) (cP w c) x)) ∧ S' = (ZZ t dr tx) ∧ frm [70, 72] w w' ∧ ∀ o : Int, 0 ≤ o → o < 6 → w' 70 o = w 70 o - oPaid (w 70) (cP w c) x o ∧ w' 72 o = w 72 o + oPaid (w 70) (cP w c) x o) zNo 0 [zR 69, zI c, zI x, .null, .null, .null, .null] [] (ZZ t dr tx) w
  refine zA_iconst dX5_payRound_0 ?_
  refine zA_istore_n (lo1 := [zR 69, zI c, zI x, zI 0, .null, .null, .null]) dX5_payRound_1 (by decide) rfl rfl ?_
  refine zA_iconst dX5_payRound_2 ?_
  refine zA_istore (lo1 := [zR 69, zI c, zI x, zI 0, zI 0, .null, .null]) dX5_payRound_3 (by decide) rfl rfl ?_
  have L5 : ∀ (z5 : Nat) (s : Int) (o : Int) (o0 : 0 ≤ o) (o1 : o ≤ 6) (hs : s = (zsum o.toNat (fun k => oEff (w 70) (cP w c) k))) (zm : (6 - o).toNat < z5), zA l mX5_payRound gr 2 0 0 (fun v' S' w' => v' = some (zI (oGot (w 70) (cP w c) x)) ∧ S' = (ZZ t dr tx) ∧ frm [70, 72] w w' ∧ ∀ o : Int, 0 ≤ o → o < 6 → w' 70 o = w 70 o - oPaid (w 70) (cP w c) x o ∧ w' 72 o = w 72 o + oPaid (w 70) (cP w c) x o) zNo 5 [zR 69, zI c, zI x, zI s, zI o, .null, .null] [] (ZZ t dr tx) w := by
    intro z5
    induction z5 with
    | zero => intro s o o0 o1 hs zm; exact absurd zm (Nat.not_lt_zero _)
    | succ z5 ih5 =>
      intro s o o0 o1 hs zm
      refine zA_iload dX5_payRound_5 rfl ?_
      refine zA_bipush dX5_payRound_7 rfl ?_
      refine zA_icmp_ge (tgt := 28) dX5_payRound_9 (by decide) (by first | assumption | exact hr _ _ | exact inR_mk (by omega) (by omega)) ⟨by decide, by decide⟩ (fun c9 => ?_) (fun c9 => ?_)
      · skip
        have ht := oTog_b hI o.toNat (by omega)
        refine zA_iload_n dX5_payRound_28 rfl ?_
        refine zA_if_gt (tgt := 34) dX5_payRound_29 (by decide) (by first | assumption | exact hr _ _ | exact inR_mk (by omega) (by omega)) (fun c29 => ?_) (fun c29 => ?_)
        · skip
          refine zA_iconst dX5_payRound_34 ?_
          refine zA_istore (lo1 := [zR 69, zI c, zI x, zI s, zI 0, .null, .null]) dX5_payRound_35 (by decide) rfl rfl ?_
          refine zA_iconst dX5_payRound_37 ?_
          refine zA_istore (lo1 := [zR 69, zI c, zI x, zI s, zI 0, zI 0, .null]) dX5_payRound_38 (by decide) rfl rfl ?_
          have hT : s = oTog (w 70) (cP w c) := by
            rw [hs, show o = 6 by omega]; rfl
          rw [hT] at c29 ⊢
          have L40 : ∀ (z40 : Nat) (g : Int) (o : Int) (w1 : zW) (o0 : 0 ≤ o) (o1 : o ≤ 6) (hg : g = zsum o.toNat (fun k => oShare (w 70) (cP w c) x k)) (hf : frm [70, 72] w w1) (hd : ∀ k : Int, 0 ≤ k → k < o → w1 70 k = w 70 k - oShare (w 70) (cP w c) x k ∧ w1 72 k = w 72 k + oShare (w 70) (cP w c) x k) (hu : ∀ k : Int, o ≤ k → k < 6 → w1 70 k = w 70 k ∧ w1 72 k = w 72 k) (zm : (6 - o).toNat < z40), zA l mX5_payRound gr 2 0 0 (fun v' S' w' => v' = some (zI (oGot (w 70) (cP w c) x)) ∧ S' = (ZZ t dr tx) ∧ frm [70, 72] w w' ∧ ∀ o : Int, 0 ≤ o → o < 6 → w' 70 o = w 70 o - oPaid (w 70) (cP w c) x o ∧ w' 72 o = w 72 o + oPaid (w 70) (cP w c) x o) zNo 40 [zR 69, zI c, zI x, zI (oTog (w 70) (cP w c)), zI g, zI o, .null] [] (ZZ t dr tx) w1 := by
            intro z40
            induction z40 with
            | zero => intro g o w1 o0 o1 hg hf hd hu zm; exact absurd zm (Nat.not_lt_zero _)
            | succ z40 ih40 =>
              intro g o w1 o0 o1 hg hf hd hu zm
              refine zA_range (fun hr => ?_)
              refine zA_iload dX5_payRound_40 rfl ?_
              refine zA_bipush dX5_payRound_42 rfl ?_
              refine zA_icmp_ge (tgt := 91) dX5_payRound_44 (by decide) (by first | assumption | exact hr _ _ | exact inR_mk (by omega) (by omega)) ⟨by decide, by decide⟩ (fun c44 => ?_) (fun c44 => ?_)
              · skip
                refine zA_iload dX5_payRound_91 rfl ?_
                refine zA_iret dX5_payRound_93 rfl ?_
                refine ⟨by unfold oGot; rw [if_neg (by omega), hg, show o = 6 by omega]; rfl, rfl, hf, fun k h1 h2 => by unfold oPaid; rw [if_neg (by omega)]; exact hd k h1 (by omega)⟩
              · skip
                have hu' := hu o (by omega) (by omega)
                have hcp : cP w1 c = cP w c := cP_fr (fun i => hf 71 i (by decide))
                have hef : oEff (w1 70) (cP w1 c) o = oEff (w 70) (cP w c) o := oEff_fr hu'.1 (by rw [hcp])
                have he := oEff_b hI o0 (by omega)
                have hm := zmulB hx0 hx he.1 he.2
                have hsh : (min (w1 70 o) (x * oEff (w1 70) (cP w1 c) o / oTog (w 70) (cP w c))) = oShare (w 70) (cP w c) x o := by unfold oShare; rw [hef, hu'.1]
                have hsb := oShare_b (x := x) hI hx0 o0 (by omega) (by omega)
                have hmo := hI o o0 (by omega)
                have hqo := hq o o0 (by omega)
                have hdv : x * oEff (w 70) (cP w c) o / oTog (w 70) (cP w c) ≤ x * oEff (w 70) (cP w c) o := Int.ediv_le_self _ hm.1
                have hdn : 0 ≤ x * oEff (w 70) (cP w c) o / oTog (w 70) (cP w c) := Int.ediv_nonneg hm.1 (by omega)
                rw [← hef] at he hm hdv hdn
                have htb := oTog_b hI 6 (by decide)
                have htb2 : oTog (w 70) (cP w c) ≤ 600 := htb.2
                have hgb : 0 ≤ g ∧ g ≤ 99999 := by
                  have b1 := oGot_b (x := x) hI hx0
                  unfold oGot at b1
                  rw [if_neg (by omega)] at b1
                  have b2 : zsum o.toNat (fun k => oShare (w 70) (cP w c) x k) ≤ 9999 * 6 ∧ 0 ≤ zsum o.toNat (fun k => oShare (w 70) (cP w c) x k) := by
                    have b3 := zsum_b (f := fun k : Nat => oShare (w 70) (cP w c) x k) (B := 9999) o.toNat (fun k hk => by
                      have := oShare_b (x := x) (o := k) hI hx0 (by omega) (by omega) (by omega)
                      have := hI k (by omega) (by omega)
                      omega)
                    omega
                  rw [hg]; omega
                refine zA_aload_n dX5_payRound_47 rfl ?_
                refine zA_getR (n := 70) dX5_payRound_48 fX5_11 c69 rfl ?_
                refine zA_iload dX5_payRound_51 rfl ?_
                refine zA_iaload dX5_payRound_53 c70 (by first | assumption | omega) (by first | assumption | omega) (by decide) ?_
                refine zA_iload_n dX5_payRound_54 rfl ?_
                refine zA_aload_n dX5_payRound_55 rfl ?_
                refine zA_iload_n dX5_payRound_56 rfl ?_
                refine zA_iload dX5_payRound_57 rfl ?_
                refine zA_cV (st := [zI x, zI (w1 70 o)]) dX5_payRound_59 vX5_partOf kX5_35 (s_partOf (w := w1) (c := c) (o := o) h0 h1 o0 (by omega)) (by decide) c69 rfl rfl (Nat.le_of_ble_eq_true rfl) rfl (zRt_el ?_)
                show zA l mX5_payRound gr 2 0 0 (fun v' S' w' => v' = some (zI (oGot (w 70) (cP w c) x)) ∧ S' = (ZZ t dr tx) ∧ frm [70, 72] w w' ∧ ∀ o : Int, 0 ≤ o → o < 6 → w' 70 o = w 70 o - oPaid (w 70) (cP w c) x o ∧ w' 72 o = w 72 o + oPaid (w 70) (cP w c) x o) zNo 62 [zR 69, zI c, zI x, zI (oTog (w 70) (cP w c)), zI g, zI o, .null] [zI (oEff (w1 70) (cP w1 c) o), zI x, zI (w1 70 o)] (ZZ t dr tx) w1
                refine zA_imul dX5_payRound_62 ?_
                refine zA_iload_n dX5_payRound_63 rfl ?_
                refine zA_idiv dX5_payRound_64 (by first | assumption | omega) (by first | assumption | omega) (by first | assumption | omega) (by first | assumption | omega) ?_
                refine zA_mmin dX5_payRound_65 kmX5_38 zw_min (by first | assumption | exact hr _ _ | exact inR_mk (by omega) (by omega)) (by first | assumption | exact hr _ _ | exact inR_mk (by omega) (by omega)) (Nat.le_of_ble_eq_true rfl) ?_
                refine zA_istore (lo1 := [zR 69, zI c, zI x, zI (oTog (w 70) (cP w c)), zI g, zI o, zI (min (w1 70 o) ((x * (oEff (w1 70) (cP w1 c) o)) / (oTog (w 70) (cP w c))))]) dX5_payRound_68 (by decide) rfl rfl ?_
                refine zA_aload_n dX5_payRound_70 rfl ?_
                refine zA_iload dX5_payRound_71 rfl ?_
                refine zA_iload dX5_payRound_73 rfl ?_
                refine zA_cV (st := []) dX5_payRound_75 vX5_pay kX5_43 (s_pay (w := w1) (o := o) (u := (min (w1 70 o) (x * oEff (w1 70) (cP w1 c) o / oTog (w 70) (cP w c)))) o0 (by omega) (by rw [hsh]; exact hsb.1) (by rw [hsh]; omega) (by omega) (by omega) (by omega)) (by decide) c69 rfl rfl (Nat.le_of_ble_eq_true rfl) rfl (zRt_el ?_)
                show zA l mX5_payRound gr 2 0 0 (fun v' S' w' => v' = some (zI (oGot (w 70) (cP w c) x)) ∧ S' = (ZZ t dr tx) ∧ frm [70, 72] w w' ∧ ∀ o : Int, 0 ≤ o → o < 6 → w' 70 o = w 70 o - oPaid (w 70) (cP w c) x o ∧ w' 72 o = w 72 o + oPaid (w 70) (cP w c) x o) zNo 78 [zR 69, zI c, zI x, zI (oTog (w 70) (cP w c)), zI g, zI o, zI (min (w1 70 o) ((x * (oEff (w1 70) (cP w1 c) o)) / (oTog (w 70) (cP w c))))] [] (ZZ t dr tx) (up (up w1 70 o (w1 70 o - (min (w1 70 o) (x * oEff (w1 70) (cP w1 c) o / oTog (w 70) (cP w c))))) 72 o (w1 72 o + (min (w1 70 o) (x * oEff (w1 70) (cP w1 c) o / oTog (w 70) (cP w c)))))
                refine zA_iload dX5_payRound_78 rfl ?_
                refine zA_iload dX5_payRound_80 rfl ?_
                refine zA_iadd dX5_payRound_82 ?_
                refine zA_istore (lo1 := [zR 69, zI c, zI x, zI (oTog (w 70) (cP w c)), zI (g + (min (w1 70 o) ((x * (oEff (w1 70) (cP w1 c) o)) / (oTog (w 70) (cP w c))))), zI o, zI (min (w1 70 o) ((x * (oEff (w1 70) (cP w1 c) o)) / (oTog (w 70) (cP w c))))]) dX5_payRound_83 (by decide) rfl rfl ?_
                refine zA_iinc (lo1 := [zR 69, zI c, zI x, zI (oTog (w 70) (cP w c)), zI (g + (min (w1 70 o) ((x * (oEff (w1 70) (cP w1 c) o)) / (oTog (w 70) (cP w c))))), zI (o + 1), zI (min (w1 70 o) ((x * (oEff (w1 70) (cP w1 c) o)) / (oTog (w 70) (cP w c))))]) dX5_payRound_85 rfl (by decide) rfl rfl ?_
                refine zA_goto (tgt := 40) dX5_payRound_88 (by decide) ?_
                refine zA_drop 6 (lo1 := [zR 69, zI c, zI x, zI (oTog (w 70) (cP w c)), zI (g + (min (w1 70 o) ((x * (oEff (w1 70) (cP w1 c) o)) / (oTog (w 70) (cP w c))))), zI (o + 1), .null]) rfl ?_
                exact ih40 _ (o + 1) _ (by omega) (by omega) (by rw [zsucc o0]; simp only [zsum]; rw [zcast o0, hg, hsh]) (frm_up (frm_up hf (by decide)) (by decide)) (fun k h1 h2 => by
            by_cases hk : k = o
            · subst hk; rw [up_cell _ _ _ _ (by decide : (70 : Nat) ≠ 72), up_same, up_same, hsh, (hu k (by omega) (by omega)).1, (hu k (by omega) (by omega)).2]; exact ⟨rfl, rfl⟩
            · rw [up_cell _ _ _ _ (by decide : (70 : Nat) ≠ 72), up_idx _ _ _ _ hk, up_idx _ _ _ _ hk, up_cell _ _ _ _ (by decide : (72 : Nat) ≠ 70)]; exact hd k h1 (by omega)) (fun k h1 h2 => by
            rw [up_cell _ _ _ _ (by decide : (70 : Nat) ≠ 72), up_idx _ _ _ _ (by omega), up_idx _ _ _ _ (by omega), up_cell _ _ _ _ (by decide : (72 : Nat) ≠ 70)]; exact hu k (by omega) h2) (by omega)
          exact L40 _ 0 0 w (by omega) (by omega) rfl frm_rfl (fun k h1 h2 => by omega) (fun k h1 h2 => ⟨rfl, rfl⟩) (Nat.lt_succ_self _)
        · skip
          have htt : oTog (w 70) (cP w c) ≤ 0 := by
            rw [← show s = oTog (w 70) (cP w c) by rw [hs, show o = 6 by omega]; rfl]; omega
          refine zA_iconst dX5_payRound_32 ?_
          refine zA_iret dX5_payRound_33 rfl ?_
          refine ⟨by unfold oGot; rw [if_pos htt], rfl, frm_rfl, fun k h1 h2 => by unfold oPaid; rw [if_pos htt]; omega⟩
      · skip
        have ht := oTog_b hI o.toNat (by omega)
        have he := oEff_b hI o0 (by omega)
        refine zA_iload_n dX5_payRound_12 rfl ?_
        refine zA_aload_n dX5_payRound_13 rfl ?_
        refine zA_iload_n dX5_payRound_14 rfl ?_
        refine zA_iload dX5_payRound_15 rfl ?_
        refine zA_cV (st := [zI s]) dX5_payRound_17 vX5_partOf kX5_35 (s_partOf (w := w) (c := c) (o := o) h0 h1 o0 (by omega)) (by decide) c69 rfl rfl (Nat.le_of_ble_eq_true rfl) rfl (zRt_el ?_)
        show zA l mX5_payRound gr 2 0 0 (fun v' S' w' => v' = some (zI (oGot (w 70) (cP w c) x)) ∧ S' = (ZZ t dr tx) ∧ frm [70, 72] w w' ∧ ∀ o : Int, 0 ≤ o → o < 6 → w' 70 o = w 70 o - oPaid (w 70) (cP w c) x o ∧ w' 72 o = w 72 o + oPaid (w 70) (cP w c) x o) zNo 20 [zR 69, zI c, zI x, zI s, zI o, .null, .null] [zI (oEff (w 70) (cP w c) o), zI s] (ZZ t dr tx) w
        refine zA_iadd dX5_payRound_20 ?_
        refine zA_istore_n (lo1 := [zR 69, zI c, zI x, zI (s + (oEff (w 70) (cP w c) o)), zI o, .null, .null]) dX5_payRound_21 (by decide) rfl rfl ?_
        refine zA_iinc (lo1 := [zR 69, zI c, zI x, zI (s + (oEff (w 70) (cP w c) o)), zI (o + 1), .null, .null]) dX5_payRound_22 rfl (by decide) rfl rfl ?_
        refine zA_goto (tgt := 5) dX5_payRound_25 (by decide) ?_
        exact ih5 _ (o + 1) (by omega) (by omega) (by rw [zsucc o0]; simp only [zsum]; rw [zcast o0, hs]) (by omega)
  exact L5 _ 0 0 (by omega) (by omega) rfl (Nat.lt_succ_self _)

theorem oOnes_hi (p m q : Int → Int) (x : Int) : ∀ (n : Nat) (k : Int), (n : Int) ≤ k → (oOnes p n m q x).1 k = m k ∧ (oOnes p n m q x).2.1 k = q k := by
  intro n
  induction n with
  | zero => intro k _; exact ⟨rfl, rfl⟩
  | succ n ih =>
    intro k hk
    have h := ih k (by omega)
    simp only [oOnes]
    split
    · refine ⟨?_, ?_⟩
      · show (if k = n then _ else _) = _
        rw [if_neg (by omega)]; exact h.1
      · show (if k = n then _ else _) = _
        rw [if_neg (by omega)]; exact h.2
    · exact h
theorem oOnes_stop (p m q : Int → Int) (x : Int) (n : Nat) (h : (oOnes p n m q x).2.2 ≤ 0) : ∀ j : Nat, oOnes p (n + j) m q x = oOnes p n m q x := by
  intro j
  induction j with
  | zero => rfl
  | succ j ih =>
    show oOnes p (n + j + 1) m q x = _
    simp only [oOnes]
    rw [ih, if_neg (by omega)]
theorem oOnes_b (p m q : Int → Int) (x : Int) (hx : 0 ≤ x) : ∀ n : Nat, 0 ≤ (oOnes p n m q x).2.2 ∧ (oOnes p n m q x).2.2 ≤ x := by
  intro n
  induction n with
  | zero => exact ⟨hx, Int.le_refl _⟩
  | succ n ih =>
    simp only [oOnes]
    split
    · rename_i h
      refine ⟨?_, ?_⟩
      · show 0 ≤ (oOnes p n m q x).2.2 - 1
        omega
      · show (oOnes p n m q x).2.2 - 1 ≤ x
        omega
    · exact ih
set_option maxRecDepth 100000 in
set_option maxHeartbeats 4000000 in
theorem s_payOnes {l : Launch} {t dr tx : Nat} {w : zW} {gr : Bool} {c x : Int} (hI : okOwn (w 70) (cP w c)) (h0 : 0 ≤ c) (h1 : c < 12) (hx0 : 0 ≤ x) (hx : x ≤ 99999) (hq : ∀ o : Int, 0 ≤ o → o < 6 → 0 ≤ w 72 o ∧ w 72 o ≤ 500000) : zSp l mX5_payOnes gr 2 0 0 [zR 69, zI c, zI x] (ZZ t dr tx) w (fun v' S' w' => v' = some (zI (oOnes (cP w c) 6 (w 70) (w 72) x).2.2) ∧ S' = (ZZ t dr tx) ∧ frm [70, 72] w w' ∧ ∀ o : Int, 0 ≤ o → o < 6 → w' 70 o = (oOnes (cP w c) 6 (w 70) (w 72) x).1 o ∧ w' 72 o = (oOnes (cP w c) 6 (w 70) (w 72) x).2.1 o) zNo := by
  refine zA_intro ⟨plainFor_of_name (by decide +kernel), Or.inl (by decide +kernel)⟩ rfl (Nat.le_of_ble_eq_true rfl) ?_
  refine zA_range (fun hr => ?_)
  show zA l mX5_payOnes gr 2 0 0 (fun v' S' w' => v' = some (zI (oOnes (cP w c) 6 (w 70) (w 72) x).2.2) ∧ S' = (ZZ t dr tx) ∧ frm [70, 72] w w' ∧ ∀ o : Int, 0 ≤ o → o < 6 → w' 70 o = (oOnes (cP w c) 6 (w 70) (w 72) x).1 o ∧ w' 72 o = (oOnes (cP w c) 6 (w 70) (w 72) x).2.1 o) zNo 0 [zR 69, zI c, zI x, .null, .null] [] (ZZ t dr tx) w
  refine zA_iload_n dX5_payOnes_0 rfl ?_
  refine zA_istore_n (lo1 := [zR 69, zI c, zI x, zI x, .null]) dX5_payOnes_1 (by decide) rfl rfl ?_
  refine zA_iconst dX5_payOnes_2 ?_
  refine zA_istore (lo1 := [zR 69, zI c, zI x, zI x, zI 0]) dX5_payOnes_3 (by decide) rfl rfl ?_
  have L5 : ∀ (z5 : Nat) (g : Int) (o : Int) (w1 : zW) (o0 : 0 ≤ o) (o1 : o ≤ 6) (hg : g = (oOnes (cP w c) o.toNat (w 70) (w 72) x).2.2) (hf : frm [70, 72] w w1) (hd : ∀ k : Int, 0 ≤ k → k < 6 → w1 70 k = (oOnes (cP w c) o.toNat (w 70) (w 72) x).1 k ∧ w1 72 k = (oOnes (cP w c) o.toNat (w 70) (w 72) x).2.1 k) (zm : (6 - o).toNat < z5), zA l mX5_payOnes gr 2 0 0 (fun v' S' w' => v' = some (zI (oOnes (cP w c) 6 (w 70) (w 72) x).2.2) ∧ S' = (ZZ t dr tx) ∧ frm [70, 72] w w' ∧ ∀ o : Int, 0 ≤ o → o < 6 → w' 70 o = (oOnes (cP w c) 6 (w 70) (w 72) x).1 o ∧ w' 72 o = (oOnes (cP w c) 6 (w 70) (w 72) x).2.1 o) zNo 5 [zR 69, zI c, zI x, zI g, zI o] [] (ZZ t dr tx) w1 := by
    intro z5
    induction z5 with
    | zero => intro g o w1 o0 o1 hg hf hd zm; exact absurd zm (Nat.not_lt_zero _)
    | succ z5 ih5 =>
      intro g o w1 o0 o1 hg hf hd zm
      refine zA_range (fun hr => ?_)
      have hgb := oOnes_b (cP w c) (w 70) (w 72) x hx0 o.toNat
      rw [← hg] at hgb
      refine zA_iload dX5_payOnes_5 rfl ?_
      refine zA_bipush dX5_payOnes_7 rfl ?_
      refine zA_icmp_ge (tgt := 42) dX5_payOnes_9 (by decide) (by first | assumption | exact hr _ _ | exact inR_mk (by omega) (by omega)) ⟨by decide, by decide⟩ (fun c9 => ?_) (fun c9 => ?_)
      · skip
        refine zA_iload_n dX5_payOnes_42 rfl ?_
        refine zA_iret dX5_payOnes_43 rfl ?_
        have hst : oOnes (cP w c) 6 (w 70) (w 72) x = (oOnes (cP w c) o.toNat (w 70) (w 72) x) := by
          first
          | (rw [show (6 : Nat) = o.toNat by omega])
          | (have h := oOnes_stop (cP w c) (w 70) (w 72) x o.toNat (by omega) (6 - o.toNat)
             rw [← h]; congr 1; omega)
        rw [hst]
        exact ⟨by rw [hg], rfl, hf, hd⟩
      · skip
        refine zA_iload_n dX5_payOnes_12 rfl ?_
        refine zA_if_le (tgt := 42) dX5_payOnes_13 (by decide) (by first | assumption | exact hr _ _ | exact inR_mk (by omega) (by omega)) (fun c13 => ?_) (fun c13 => ?_)
        · skip
          refine zA_iload_n dX5_payOnes_42 rfl ?_
          refine zA_iret dX5_payOnes_43 rfl ?_
          have hst : oOnes (cP w c) 6 (w 70) (w 72) x = (oOnes (cP w c) o.toNat (w 70) (w 72) x) := by
            first
            | (rw [show (6 : Nat) = o.toNat by omega])
            | (have h := oOnes_stop (cP w c) (w 70) (w 72) x o.toNat (by omega) (6 - o.toNat)
               rw [← h]; congr 1; omega)
          rw [hst]
          exact ⟨by rw [hg], rfl, hf, hd⟩
        · skip
          have hh := oOnes_hi (cP w c) (w 70) (w 72) x o.toNat o (by omega)
          have hdo := hd o o0 (by omega)
          have hmo := hI o o0 (by omega)
          have hqo := hq o o0 (by omega)
          have hcp : cP w1 c = cP w c := cP_fr (fun i => hf 71 i (by decide))
          have hef : oEff (w1 70) (cP w1 c) o = oEff (w 70) (cP w c) o := oEff_fr (hdo.1.trans hh.1) (by rw [hcp])
          have he := oEff_b hI o0 (by omega)
          rw [← hef] at he
          have hpos : 0 < oEff (w1 70) (cP w1 c) o → 0 < w1 70 o := fun h => by
            unfold oEff at h
            split at h
            · assumption
            · omega
          refine zA_aload_n dX5_payOnes_16 rfl ?_
          refine zA_iload_n dX5_payOnes_17 rfl ?_
          refine zA_iload dX5_payOnes_18 rfl ?_
          refine zA_cV (st := []) dX5_payOnes_20 vX5_partOf kX5_35 (s_partOf (w := w1) (c := c) (o := o) h0 h1 o0 (by omega)) (by decide) c69 rfl rfl (Nat.le_of_ble_eq_true rfl) rfl (zRt_el ?_)
          show zA l mX5_payOnes gr 2 0 0 (fun v' S' w' => v' = some (zI (oOnes (cP w c) 6 (w 70) (w 72) x).2.2) ∧ S' = (ZZ t dr tx) ∧ frm [70, 72] w w' ∧ ∀ o : Int, 0 ≤ o → o < 6 → w' 70 o = (oOnes (cP w c) 6 (w 70) (w 72) x).1 o ∧ w' 72 o = (oOnes (cP w c) 6 (w 70) (w 72) x).2.1 o) zNo 23 [zR 69, zI c, zI x, zI g, zI o] [zI (oEff (w1 70) (cP w1 c) o)] (ZZ t dr tx) w1
          refine zA_if_le (tgt := 36) dX5_payOnes_23 (by decide) (by first | assumption | exact hr _ _ | exact inR_mk (by omega) (by omega)) (fun c23 => ?_) (fun c23 => ?_)
          · skip
            refine zA_iinc (lo1 := [zR 69, zI c, zI x, zI g, zI (o + 1)]) dX5_payOnes_36 rfl (by decide) rfl rfl ?_
            refine zA_goto (tgt := 5) dX5_payOnes_39 (by decide) ?_
            exact ih5 _ (o + 1) _ (by omega) (by omega) (by rw [zsucc o0]; simp only [oOnes]; rw [if_neg (by rw [zcast o0]; omega)]; exact hg) hf (fun k h1 h2 => by
            rw [zsucc o0]; simp only [oOnes]; rw [if_neg (by rw [zcast o0]; omega)]; exact hd k h1 h2) (by omega)
          · skip
            refine zA_aload_n dX5_payOnes_26 rfl ?_
            refine zA_iload dX5_payOnes_27 rfl ?_
            refine zA_iconst dX5_payOnes_29 ?_
            refine zA_cV (st := []) dX5_payOnes_30 vX5_pay kX5_43 (s_pay (w := w1) (o := o) (u := 1) o0 (by omega) (by decide) (by omega) (by omega) (by omega) (by omega)) (by decide) c69 rfl rfl (Nat.le_of_ble_eq_true rfl) rfl (zRt_el ?_)
            show zA l mX5_payOnes gr 2 0 0 (fun v' S' w' => v' = some (zI (oOnes (cP w c) 6 (w 70) (w 72) x).2.2) ∧ S' = (ZZ t dr tx) ∧ frm [70, 72] w w' ∧ ∀ o : Int, 0 ≤ o → o < 6 → w' 70 o = (oOnes (cP w c) 6 (w 70) (w 72) x).1 o ∧ w' 72 o = (oOnes (cP w c) 6 (w 70) (w 72) x).2.1 o) zNo 33 [zR 69, zI c, zI x, zI g, zI o] [] (ZZ t dr tx) (up (up w1 70 o (w1 70 o - 1)) 72 o (w1 72 o + 1))
            refine zA_iinc (lo1 := [zR 69, zI c, zI x, zI (g + (-1)), zI o]) dX5_payOnes_33 rfl (by decide) rfl rfl ?_
            refine zA_iinc (lo1 := [zR 69, zI c, zI x, zI (g + (-1)), zI (o + 1)]) dX5_payOnes_36 rfl (by decide) rfl rfl ?_
            refine zA_goto (tgt := 5) dX5_payOnes_39 (by decide) ?_
            exact ih5 _ (o + 1) _ (by omega) (by omega) (by rw [zsucc o0]; simp only [oOnes]; rw [if_pos ⟨by omega, by rw [zcast o0]; omega⟩]; show _ = (oOnes (cP w c) o.toNat (w 70) (w 72) x).2.2 - 1; omega) (frm_up (frm_up hf (by decide)) (by decide)) (fun k h1 h2 => by
            rw [zsucc o0]; simp only [oOnes]; rw [if_pos ⟨by omega, by rw [zcast o0]; omega⟩]
            by_cases hk : k = o
            · subst hk
              rw [up_cell _ _ _ _ (by decide : (70 : Nat) ≠ 72), up_same, up_same]
              refine ⟨?_, ?_⟩
              · show _ = (if k = ((k.toNat : Nat) : Int) then _ else _)
                rw [if_pos (by omega)]; have := (hd k h1 h2).1; omega
              · show _ = (if k = ((k.toNat : Nat) : Int) then _ else _)
                rw [if_pos (by omega)]; have := (hd k h1 h2).2; omega
            · rw [up_cell _ _ _ _ (by decide : (70 : Nat) ≠ 72), up_idx _ _ _ _ hk, up_idx _ _ _ _ hk, up_cell _ _ _ _ (by decide : (72 : Nat) ≠ 70)]
              refine ⟨?_, ?_⟩
              · show _ = (if k = ((o.toNat : Nat) : Int) then _ else _)
                rw [if_neg (by omega)]; exact (hd k h1 h2).1
              · show _ = (if k = ((o.toNat : Nat) : Int) then _ else _)
                rw [if_neg (by omega)]; exact (hd k h1 h2).2) (by omega)
  exact L5 _ x 0 w (by omega) (by omega) rfl frm_rfl (fun k h1 h2 => ⟨rfl, rfl⟩) (Nat.lt_succ_self _)

