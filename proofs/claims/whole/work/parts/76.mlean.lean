/-! lean in the reference -/
def okMb (w : zW) : Prop := ∀ c : Int, 0 ≤ c → c < 12 → (0 ≤ w 89 c ∧ w 89 c ≤ 10) ∧ (0 ≤ w 90 c ∧ w 90 c ≤ 500) ∧ ∀ k : Int, 0 ≤ k → k < w 89 c → (0 ≤ w 91 (10 * c + k) ∧ w 91 (10 * c + k) ≤ 300) ∧ -3000 ≤ w 92 (10 * c + k) ∧ w 92 (10 * c + k) ≤ 3000
def off (w : zW) (c k : Int) : Int := (w 73 34 - w 92 (10 * c + k)) * w 73 36 + w 73 35 * (w 91 (10 * c + k) - w 73 33)
def gT (w : zW) (c : Int) : Prop := ∀ k : Int, 0 ≤ k → k < w 89 c → -(w 90 c * w 73 36) ≤ off w c k ∧ off w c k ≤ w 90 c * w 73 36
def gv (y L U : Int → Int) (m i j e A D : Int) : Prop := y i < y j ∧ D = y j - y i ∧ ∃ B p q : Int, p = (if e % 2 = 0 then U i else L i) ∧ q = (if e / 2 = 0 then U j else L j) ∧ B = q - p ∧ A = p * D - B * y i ∧ fea y L U m A B D
theorem gv_u {y L U : Int → Int} {m i j e A D A' D' : Int} (h : gv y L U m i j e A D) (k : gv y L U m i j e A' D') : A = A' ∧ D = D' := by
  obtain ⟨-, h1, B, p, q, h2, h3, h4, h5, -⟩ := h
  obtain ⟨-, k1, B', p', q', k2, k3, k4, k5, -⟩ := k
  have e1 : D = D' := h1.trans k1.symm
  have e2 : p = p' := h2.trans k2.symm
  have e3 : q = q' := h3.trans k3.symm
  refine ⟨?_, e1⟩
  rw [h5, k5, h4, k4, e1, e2, e3]
theorem gv_vtx {y L U : Int → Int} {m i j e A D : Int} (hi : 0 ≤ i ∧ i < m) (hj : 0 ≤ j ∧ j < m) (h : gv y L U m i j e A D) : vtx y L U m A D := by
  obtain ⟨h0, h1, B, p, q, h2, h3, h4, h5, h6⟩ := h
  exact ⟨i, j, p, q, B, hi, hj, h0, by rw [h2]; split; exact Or.inr rfl; exact Or.inl rfl, by rw [h3]; split; exact Or.inr rfl; exact Or.inl rfl, h1, h4, h5, h6⟩
theorem vtx_gv {y L U : Int → Int} {m A D : Int} (h : vtx y L U m A D) : ∃ i j e : Int, ((0 ≤ i ∧ i < m) ∧ (0 ≤ j ∧ j < m) ∧ 0 ≤ e ∧ e < 4) ∧ gv y L U m i j e A D := by
  obtain ⟨i, j, p, q, B, hi, hj, h0, hp, hq, h1, h4, h5, h6⟩ := h
  rcases hp with hp | hp <;> rcases hq with hq | hq
  · exact ⟨i, j, 3, ⟨hi, hj, by decide, by decide⟩, h0, h1, B, p, q, by rw [if_neg (by decide)]; exact hp, by rw [if_neg (by decide)]; exact hq, h4, h5, h6⟩
  · exact ⟨i, j, 1, ⟨hi, hj, by decide, by decide⟩, h0, h1, B, p, q, by rw [if_neg (by decide)]; exact hp, by rw [if_pos (by decide)]; exact hq, h4, h5, h6⟩
  · exact ⟨i, j, 2, ⟨hi, hj, by decide, by decide⟩, h0, h1, B, p, q, by rw [if_pos (by decide)]; exact hp, by rw [if_neg (by decide)]; exact hq, h4, h5, h6⟩
  · exact ⟨i, j, 0, ⟨hi, hj, by decide, by decide⟩, h0, h1, B, p, q, by rw [if_pos (by decide)]; exact hp, by rw [if_pos (by decide)]; exact hq, h4, h5, h6⟩
def sv (k A D : Int) : Int := if k = 0 then cl (-A) D else cl A D
def sb (k b : Int) : Int := if k = 0 then -b else b
def mrS (y L U : Int → Int) (m k : Int) (V : Int → Int → Int → Prop) (h b : Int) : Prop := (h = 0 ∧ ∀ i j e A D, V i j e → ¬ gv y L U m i j e A D) ∨ (h = 1 ∧ (∀ i j e A D, V i j e → gv y L U m i j e A D → sv k A D ≤ sb k b) ∧ ∃ i j e A D, V i j e ∧ gv y L U m i j e A D ∧ sb k b = sv k A D)
theorem mrS_V {y L U : Int → Int} {m k h b : Int} {V V' : Int → Int → Int → Prop} (hV : ∀ i j e, V i j e ↔ V' i j e) (hs : mrS y L U m k V h b) : mrS y L U m k V' h b := by
  rcases hs with ⟨h1, h2⟩ | ⟨h1, h2, i, j, e, A, D, v, h3⟩
  · exact Or.inl ⟨h1, fun i j e A D v => h2 i j e A D ((hV i j e).mpr v)⟩
  · exact Or.inr ⟨h1, fun i j e A D v => h2 i j e A D ((hV i j e).mpr v), i, j, e, A, D, (hV i j e).mp v, h3⟩
theorem mrS_no {y L U : Int → Int} {m k h b : Int} {V V' : Int → Int → Int → Prop} (hs : mrS y L U m k V h b) (hV : ∀ i j e, V' i j e → V i j e ∨ ∀ A D, ¬ gv y L U m i j e A D) (hV2 : ∀ i j e, V i j e → V' i j e) : mrS y L U m k V' h b := by
  rcases hs with ⟨h1, h2⟩ | ⟨h1, h2, i, j, e, A, D, v, h3⟩
  · exact Or.inl ⟨h1, fun i j e A D v => (hV i j e v).elim (fun v => h2 i j e A D v) (fun g => g A D)⟩
  · exact Or.inr ⟨h1, fun i j e A D v g => (hV i j e v).elim (fun v => h2 i j e A D v g) (fun n => absurd g (n A D)), i, j, e, A, D, hV2 i j e v, h3⟩
theorem mrS_add {y L U : Int → Int} {m k h b v i j e A D : Int} {V V' : Int → Int → Int → Prop} (hs : mrS y L U m k V h b) (hV : ∀ x z f, V' x z f ↔ V x z f ∨ (x = i ∧ z = j ∧ f = e)) (hg : gv y L U m i j e A D) (hv : sb k v = sv k A D) : ((h = 0 ∨ sb k b < sb k v) → mrS y L U m k V' 1 v) ∧ (¬ (h = 0 ∨ sb k b < sb k v) → mrS y L U m k V' 1 b) := by
  refine ⟨fun q => Or.inr ⟨rfl, fun x z f A' D' w g => ?_, i, j, e, A, D, (hV i j e).mpr (Or.inr ⟨rfl, rfl, rfl⟩), hg, hv⟩, fun q => ?_⟩
  · rcases (hV x z f).mp w with w | ⟨rfl, rfl, rfl⟩
    · rcases hs with ⟨h1, h2⟩ | ⟨h1, h2, -⟩
      · exact absurd g (h2 x z f A' D' w)
      · have := h2 x z f A' D' w g
        omega
    · obtain ⟨e1, e2⟩ := gv_u g hg
      rw [e1, e2]; omega
  · rcases hs with ⟨h1, h2⟩ | ⟨h1, h2, i', j', e', A', D', w', g', h3⟩
    · exact absurd (Or.inl h1) q
    · refine Or.inr ⟨rfl, fun x z f A'' D'' w g => ?_, i', j', e', A', D', (hV _ _ _).mpr (Or.inl w'), g', h3⟩
      rcases (hV x z f).mp w with w | ⟨rfl, rfl, rfl⟩
      · exact h2 x z f A'' D'' w g
      · obtain ⟨e1, e2⟩ := gv_u g hg
        rw [e1, e2]; omega
theorem ite_pe {C : Prop} [hC : Decidable C] {a d : Int} : (if C then a + d else a - d) = a + (if C then d else -d) := by
  by_cases h : C
  · rw [if_pos h, if_pos h]
  · rw [if_neg h, if_neg h]; omega
theorem fl_b {N D K : Int} (hD : 0 < D) (h1 : -K ≤ N) (h2 : N ≤ K) (h0 : 0 ≤ K) : -K ≤ N / D ∧ N / D ≤ K := by
  have h := cl_b (N := -N) hD (by omega) (by omega) h0
  unfold cl at h
  rw [Int.neg_neg] at h
  omega
theorem off_f {P M D B Y Yi d t : Int} : (-(d * D) ≤ (P - M) * D + B * (Y - Yi) ∧ (P - M) * D + B * (Y - Yi) ≤ d * D) ↔ ((M - d) * D ≤ P * D + B * (t - Yi) + B * (Y - t) ∧ P * D + B * (t - Yi) + B * (Y - t) ≤ (M + d) * D) := by
  simp only [Int.sub_mul, Int.mul_sub, Int.add_mul]
  omega
theorem sv_eq {k p up A D : Int} (hD : 0 < D) (hA : A = p * D + up) : sb k (p + (if k = 0 then up / D else -(-up / D))) = sv k A D := by
  unfold sb sv cl
  by_cases e : k = 0
  · rw [if_pos e, if_pos e, if_pos e, Int.neg_neg, hA, Int.add_comm (p * D), Int.add_mul_ediv_right _ _ (by omega)]
    omega
  · rw [if_neg e, if_neg e, if_neg e, hA, show -(p * D + up) = -up + -p * D by rw [Int.neg_mul]; omega, Int.add_mul_ediv_right _ _ (by omega)]
    omega
theorem mrS_fin {Y M : Int → Int} {d m k t h b : Int} {V : Int → Int → Int → Prop} (hs : mrS (fun x => Y x - t) (fun x => M x - d) (fun x => M x + d) m k V h b) (hV : ∀ i j e, V i j e ↔ (0 ≤ i ∧ i < m) ∧ (0 ≤ j ∧ j < m) ∧ 0 ≤ e ∧ e < 4) : (h = 0 ∧ ¬ hv Y M d m) ∨ (h = 1 ∧ hv Y M d m ∧ lnW Y M d m k t b) := by
  rcases hs with ⟨h1, h2⟩ | ⟨h1, h2, i, j, e, A, D, v, g, h3⟩
  · refine Or.inl ⟨h1, fun hx => ?_⟩
    obtain ⟨A, D, hx⟩ := vtx_sh.mp hx
    obtain ⟨i, j, e, hv, g⟩ := vtx_gv hx
    exact h2 i j e A D ((hV i j e).mpr hv) g
  · have v2 := (hV i j e).mp v
    have hvx := gv_vtx v2.1 v2.2.1 g
    have hall : ∀ A D, vtx (fun x => Y x - t) (fun x => M x - d) (fun x => M x + d) m A D → sv k A D ≤ sb k b := fun A D hx => by
      obtain ⟨i, j, e, hv, g⟩ := vtx_gv hx
      exact h2 i j e A D ((hV i j e).mpr hv) g
    refine Or.inr ⟨h1, vtx_sh.mpr ⟨A, D, hvx⟩, fun e0 => ?_, fun e0 => ?_⟩
    · have hm := vtx_mi hvx
      have eL : (fun k => -(fun x => M x + d) k) = fun k => -1 * M k - d := funext fun k => by show -(M k + d) = _; omega
      have eU : (fun k => -(fun x => M x - d) k) = fun k => -1 * M k + d := funext fun k => by show -(M k - d) = _; omega
      rw [eL, eU] at hm
      refine ⟨fun A' D' hx => ?_, -A, D, hm, ?_⟩
      · have hx2 := vtx_mi hx
        have eL2 : (fun k => -(fun x => -1 * M x + d) k) = fun k => M k - d := funext fun k => by show -(-1 * M k + d) = _; omega
        have eU2 : (fun k => -(fun x => -1 * M x - d) k) = fun k => M k + d := funext fun k => by show -(-1 * M k - d) = _; omega
        rw [eL2, eU2] at hx2
        have := hall _ _ hx2
        unfold sv sb at this
        rw [if_pos e0, if_pos e0, Int.neg_neg] at this
        exact this
      · unfold sv sb at h3
        rw [if_pos e0, if_pos e0] at h3
        exact h3
    · have e1 : (fun k => (1 : Int) * M k - d) = fun k => M k - d := funext fun k => by rw [Int.one_mul]
      have e2 : (fun k => (1 : Int) * M k + d) = fun k => M k + d := funext fun k => by rw [Int.one_mul]
      unfold ln
      rw [e1, e2]
      refine ⟨fun A' D' hx => ?_, A, D, hvx, ?_⟩
      · have := hall _ _ hx
        unfold sv sb at this
        rw [if_neg e0, if_neg e0] at this
        exact this
      · unfold sv sb at h3
        rw [if_neg e0, if_neg e0] at h3
        exact h3
set_option maxRecDepth 100000 in
set_option maxHeartbeats 4000000 in
theorem m_goesThrough {l : Launch} {t dr tx : Nat} {w : zW} (hP : okMb w) {c : Int} (c0 : 0 ≤ c) (c1 : c < 12) (D0 : 0 < w 73 36) (D1 : w 73 36 ≤ 300) (P0 : -3500 ≤ w 73 34 ∧ w 73 34 ≤ 3500) (B0 : -7000 ≤ w 73 35 ∧ w 73 35 ≤ 7000) (Y0 : 0 ≤ w 73 33 ∧ w 73 33 ≤ 300)  : zSp l mX12_goesThrough false 1 0 0 [zR 73, zI c] (ZZ t dr tx) w (zRp1 (isB (gT w c)) (ZZ t dr tx) w) zNo := by
  refine zA_intro ⟨plainFor_of_name (by decide +kernel), Or.inl (by decide +kernel)⟩ rfl (Nat.le_of_ble_eq_true rfl) ?_
  obtain ⟨⟨m0, m1⟩, ⟨d0, d1⟩, hrd⟩ := hP c c0 c1
  have q3 := zmulA (x := w 90 c) (y := w 73 36) (A := 500) (B := 300) (by omega) (by omega) (by omega) (by omega)
  refine zA_range (fun hr => ?_)
  show zA l mX12_goesThrough false 1 0 0 (zRp1 (isB (gT w c)) (ZZ t dr tx) w) zNo 0 [zR 73, zI c, .null, .null] [] (ZZ t dr tx) w
  refine zA_bipush dX12_goesThrough_0 rfl ?_
  refine zA_iload_n dX12_goesThrough_2 rfl ?_
  refine zA_imul dX12_goesThrough_3 ?_
  refine zA_istore_n (lo1 := [zR 73, zI c, zI (10 * c), .null]) dX12_goesThrough_4 (by decide) rfl rfl ?_
  have L5 : ∀ (z5 : Nat) (x k : Int) (hx : x = 10 * c + k) (k0 : 0 ≤ k) (k1 : k ≤ w 89 c) (hg : ∀ j : Int, 0 ≤ j → j < k → -(w 90 c * w 73 36) ≤ off w c j ∧ off w c j ≤ w 90 c * w 73 36) (zm : (w 89 c - k).toNat < z5), zA l mX12_goesThrough false 1 0 0 (zRp1 (isB (gT w c)) (ZZ t dr tx) w) zNo 5 [zR 73, zI c, zI x, .null] [] (ZZ t dr tx) w := by
    intro z5
    induction z5 with
    | zero => intro x k hx k0 k1 hg zm; exact absurd zm (Nat.not_lt_zero _)
    | succ z5 ih5 =>
      intro x k hx k0 k1 hg zm
      refine zA_iload_n dX12_goesThrough_5 rfl ?_
      refine zA_bipush dX12_goesThrough_6 rfl ?_
      refine zA_iload_n dX12_goesThrough_8 rfl ?_
      refine zA_imul dX12_goesThrough_9 ?_
      refine zA_aload_n dX12_goesThrough_10 rfl ?_
      refine zA_getR (n := 89) dX12_goesThrough_11 fX12_72 c73 rfl ?_
      refine zA_iload_n dX12_goesThrough_14 rfl ?_
      refine zA_iaload dX12_goesThrough_15 c89 (by first | assumption | omega) (by first | assumption | omega) (by decide) ?_
      refine zA_iadd dX12_goesThrough_16 ?_
      refine zA_icmp_ge (tgt := 80) dX12_goesThrough_17 (by decide) (by first | assumption | exact hr _ _ | exact inR_mk (by omega) (by omega)) (by first | assumption | exact hr _ _ | exact inR_mk (by omega) (by omega)) (fun c17 => ?_) (fun c17 => ?_)
      · skip
        refine zA_iconst dX12_goesThrough_80 ?_
        refine zA_zret dX12_goesThrough_81 rfl (Or.inr rfl) ?_
        exact ⟨⟨_, rfl, Or.inl ⟨rfl, fun j a b => hg j a (by omega)⟩⟩, rfl, rfl⟩
      · skip
        have hrk := hrd k k0 (by omega)
        rw [← hx] at hrk
        have q1 := zmulA (x := w 73 34 - w 92 x) (y := w 73 36) (A := 6500) (B := 300) (by omega) (by omega) (by omega) (by omega)
        have q2 := zmulA (x := w 73 35) (y := w 91 x - w 73 33) (A := 7000) (B := 300) (by omega) (by omega) (by omega) (by omega)
        have ho : off w c k = ((w 73 34 - w 92 x) * w 73 36 + w 73 35 * (w 91 x - w 73 33)) := by unfold off; rw [← hx]
        refine zA_aload_n dX12_goesThrough_20 rfl ?_
        refine zA_getI dX12_goesThrough_21 fX12_347 c73 rfl ?_
        refine zA_valI (w 73 34) rfl ?_
        refine zA_aload_n dX12_goesThrough_24 rfl ?_
        refine zA_getR (n := 92) dX12_goesThrough_25 fX12_81 c73 rfl ?_
        refine zA_iload_n dX12_goesThrough_28 rfl ?_
        refine zA_iaload dX12_goesThrough_29 c92 (by first | assumption | omega) (by first | assumption | omega) (by decide) ?_
        refine zA_isub dX12_goesThrough_30 ?_
        refine zA_aload_n dX12_goesThrough_31 rfl ?_
        refine zA_getI dX12_goesThrough_32 fX12_350 c73 rfl ?_
        refine zA_valI (w 73 36) rfl ?_
        refine zA_imul dX12_goesThrough_35 ?_
        refine zA_aload_n dX12_goesThrough_36 rfl ?_
        refine zA_getI dX12_goesThrough_37 fX12_353 c73 rfl ?_
        refine zA_valI (w 73 35) rfl ?_
        refine zA_aload_n dX12_goesThrough_40 rfl ?_
        refine zA_getR (n := 91) dX12_goesThrough_41 fX12_78 c73 rfl ?_
        refine zA_iload_n dX12_goesThrough_44 rfl ?_
        refine zA_iaload dX12_goesThrough_45 c91 (by first | assumption | omega) (by first | assumption | omega) (by decide) ?_
        refine zA_aload_n dX12_goesThrough_46 rfl ?_
        refine zA_getI dX12_goesThrough_47 fX12_356 c73 rfl ?_
        refine zA_valI (w 73 33) rfl ?_
        refine zA_isub dX12_goesThrough_50 ?_
        refine zA_imul dX12_goesThrough_51 ?_
        refine zA_iadd dX12_goesThrough_52 ?_
        refine zA_istore_n (lo1 := [zR 73, zI c, zI x, zI ((((w 73 34) - (w 92 x)) * (w 73 36)) + ((w 73 35) * ((w 91 x) - (w 73 33))))]) dX12_goesThrough_53 (by decide) rfl rfl ?_
        refine zA_iload_n dX12_goesThrough_54 rfl ?_
        refine zA_mabs dX12_goesThrough_55 kmX12_359 zw_abs (by first | assumption | exact hr _ _ | exact inR_mk (by omega) (by omega)) (Nat.le_of_ble_eq_true rfl) ?_
        refine zA_valI (if 0 ≤ ((w 73 34 - w 92 x) * w 73 36 + w 73 35 * (w 91 x - w 73 33)) then ((w 73 34 - w 92 x) * w 73 36 + w 73 35 * (w 91 x - w 73 33)) else -((w 73 34 - w 92 x) * w 73 36 + w 73 35 * (w 91 x - w 73 33))) (rfl) ?_
        have hab : inR (if 0 ≤ ((w 73 34 - w 92 x) * w 73 36 + w 73 35 * (w 91 x - w 73 33)) then ((w 73 34 - w 92 x) * w 73 36 + w 73 35 * (w 91 x - w 73 33)) else -((w 73 34 - w 92 x) * w 73 36 + w 73 35 * (w 91 x - w 73 33))) := by split <;> exact inR_mk (by omega) (by omega)
        refine zA_aload_n dX12_goesThrough_58 rfl ?_
        refine zA_getR (n := 90) dX12_goesThrough_59 fX12_75 c73 rfl ?_
        refine zA_iload_n dX12_goesThrough_62 rfl ?_
        refine zA_iaload dX12_goesThrough_63 c90 (by first | assumption | omega) (by first | assumption | omega) (by decide) ?_
        refine zA_aload_n dX12_goesThrough_64 rfl ?_
        refine zA_getI dX12_goesThrough_65 fX12_350 c73 rfl ?_
        refine zA_valI (w 73 36) rfl ?_
        refine zA_imul dX12_goesThrough_68 ?_
        refine zA_icmp_le (tgt := 74) dX12_goesThrough_69 (by decide) (by first | assumption | exact hr _ _ | exact inR_mk (by omega) (by omega)) (by first | assumption | exact hr _ _ | exact inR_mk (by omega) (by omega)) (fun c69 => ?_) (fun c69 => ?_)
        · skip
          refine zA_iinc (lo1 := [zR 73, zI c, zI (x + 1), zI ((((w 73 34) - (w 92 x)) * (w 73 36)) + ((w 73 35) * ((w 91 x) - (w 73 33))))]) dX12_goesThrough_74 rfl (by decide) rfl rfl ?_
          refine zA_goto (tgt := 5) dX12_goesThrough_77 (by decide) ?_
          refine zA_drop 3 (lo1 := [zR 73, zI c, zI (x + 1), .null]) rfl ?_
          exact ih5 _ (k + 1) (by omega) (by omega) (by omega) (fun j a b => by
                    by_cases e : j = k
                    · rw [e, ho]; split at c69 <;> omega
                    · exact hg j a (by omega)) (by omega)
        · skip
          refine zA_iconst dX12_goesThrough_72 ?_
          refine zA_zret dX12_goesThrough_73 rfl (Or.inl rfl) ?_
          exact ⟨⟨_, rfl, Or.inr ⟨rfl, fun h => by have h2 := h k k0 (by omega); rw [ho] at h2; split at c69 <;> omega⟩⟩, rfl, rfl⟩
  exact L5 _ _ 0 (by omega) (by omega) (by omega) (fun j a b => by omega) (Nat.lt_succ_self _)

set_option maxRecDepth 100000 in
set_option maxHeartbeats 4000000 in
theorem m_leanOf {l : Launch} {t dr tx : Nat} {w : zW} (hP : okMb w) {c yr k : Int} (c0 : 0 ≤ c) (c1 : c < 12) (t0 : 0 ≤ yr) (t1 : yr ≤ 500) (hki : inR k) : zSp l mX12_leanOf false 3 0 0 [zR 73, zI c, zI yr, zI k] (ZZ t dr tx) w (fun v' S' w' => ∃ bst : Int, v' = some (zI bst) ∧ S' = (ZZ t dr tx) ∧ (-4000000 ≤ bst ∧ bst ≤ 4000000) ∧ (∀ x y, (x ≠ 73 ∨ (y ≠ 33 ∧ y ≠ 34 ∧ y ≠ 35 ∧ y ≠ 36 ∧ y ≠ 37)) → w' x y = w x y) ∧ ((w' 73 37 = 0 ∧ ¬ hv (fun k => w 91 (10 * c + k)) (fun k => w 92 (10 * c + k)) (w 90 c) (w 89 c)) ∨ (w' 73 37 = 1 ∧ hv (fun k => w 91 (10 * c + k)) (fun k => w 92 (10 * c + k)) (w 90 c) (w 89 c) ∧ lnW (fun k => w 91 (10 * c + k)) (fun k => w 92 (10 * c + k)) (w 90 c) (w 89 c) k yr bst))) zNo := by
  refine zA_intro ⟨plainFor_of_name (by decide +kernel), Or.inl (by decide +kernel)⟩ rfl (Nat.le_of_ble_eq_true rfl) ?_
  obtain ⟨⟨m0, m1⟩, ⟨d0, d1⟩, hrd⟩ := hP c c0 c1
  refine zA_range (fun hr => ?_)
  show zA l mX12_leanOf false 3 0 0 (fun v' S' w' => ∃ bst : Int, v' = some (zI bst) ∧ S' = (ZZ t dr tx) ∧ (-4000000 ≤ bst ∧ bst ≤ 4000000) ∧ (∀ x y, (x ≠ 73 ∨ (y ≠ 33 ∧ y ≠ 34 ∧ y ≠ 35 ∧ y ≠ 36 ∧ y ≠ 37)) → w' x y = w x y) ∧ ((w' 73 37 = 0 ∧ ¬ hv (fun k => w 91 (10 * c + k)) (fun k => w 92 (10 * c + k)) (w 90 c) (w 89 c)) ∨ (w' 73 37 = 1 ∧ hv (fun k => w 91 (10 * c + k)) (fun k => w 92 (10 * c + k)) (w 90 c) (w 89 c) ∧ lnW (fun k => w 91 (10 * c + k)) (fun k => w 92 (10 * c + k)) (w 90 c) (w 89 c) k yr bst))) zNo 0 [zR 73, zI c, zI yr, zI k, .null, .null, .null, .null, .null, .null, .null] [] (ZZ t dr tx) w
  refine zA_aload_n dX12_leanOf_0 rfl ?_
  refine zA_iconst dX12_leanOf_1 ?_
  refine zA_putI dX12_leanOf_2 fX12_362 c73 rfl ⟨by decide, by decide⟩ ⟨by rfl, by rfl⟩ ?_
  refine zA_namew (fun w_1 hw_1 => ?_)
  refine zA_range (fun hr => ?_)
  replace hw_1 : w_1 = up w 73 37 0 := hw_1
  refine zA_iconst dX12_leanOf_5 ?_
  refine zA_istore (lo1 := [zR 73, zI c, zI yr, zI k, zI 0, .null, .null, .null, .null, .null, .null]) dX12_leanOf_6 (by decide) rfl rfl ?_
  refine zA_iconst dX12_leanOf_8 ?_
  refine zA_istore (lo1 := [zR 73, zI c, zI yr, zI k, zI 0, zI 0, .null, .null, .null, .null, .null]) dX12_leanOf_9 (by decide) rfl rfl ?_
  have L11 : ∀ (z11 : Nat) (bst i : Int) (w1 : zW) (i0 : 0 ≤ i) (i1 : i ≤ w 89 c) (br : -4000000 ≤ bst ∧ bst ≤ 4000000) (hf : ∀ x y, (x ≠ 73 ∨ (y ≠ 33 ∧ y ≠ 34 ∧ y ≠ 35 ∧ y ≠ 36 ∧ y ≠ 37)) → w1 x y = w x y) (hs : mrS (fun x => w 91 (10 * c + x) - yr) (fun x => w 92 (10 * c + x) - w 90 c) (fun x => w 92 (10 * c + x) + w 90 c) (w 89 c) k (fun a b f => ((0 ≤ a ∧ a < w 89 c) ∧ (0 ≤ b ∧ b < w 89 c) ∧ 0 ≤ f ∧ f < 4) ∧ a < i) (w1 73 37) bst) (zm : (w 89 c - i).toNat < z11), zA l mX12_leanOf false 3 0 0 (fun v' S' w' => ∃ bst : Int, v' = some (zI bst) ∧ S' = (ZZ t dr tx) ∧ (-4000000 ≤ bst ∧ bst ≤ 4000000) ∧ (∀ x y, (x ≠ 73 ∨ (y ≠ 33 ∧ y ≠ 34 ∧ y ≠ 35 ∧ y ≠ 36 ∧ y ≠ 37)) → w' x y = w x y) ∧ ((w' 73 37 = 0 ∧ ¬ hv (fun k => w 91 (10 * c + k)) (fun k => w 92 (10 * c + k)) (w 90 c) (w 89 c)) ∨ (w' 73 37 = 1 ∧ hv (fun k => w 91 (10 * c + k)) (fun k => w 92 (10 * c + k)) (w 90 c) (w 89 c) ∧ lnW (fun k => w 91 (10 * c + k)) (fun k => w 92 (10 * c + k)) (w 90 c) (w 89 c) k yr bst))) zNo 11 [zR 73, zI c, zI yr, zI k, zI bst, zI i, .null, .null, .null, .null, .null] [] (ZZ t dr tx) w1 := by
    intro z11
    induction z11 with
    | zero => intro bst i w1 i0 i1 br hf hs zm; exact absurd zm (Nat.not_lt_zero _)
    | succ z11 ih11 =>
      intro bst i w1 i0 i1 br hf hs zm
      refine zA_range (fun hr => ?_)
      refine zA_iload dX12_leanOf_11 rfl ?_
      refine zA_aload_n dX12_leanOf_13 rfl ?_
      refine zA_getR (n := 89) dX12_leanOf_14 fX12_72 c73 rfl ?_
      refine zA_iload_n dX12_leanOf_17 rfl ?_
      refine zA_iaload dX12_leanOf_18 c89 (by first | assumption | omega) (by first | assumption | omega) (by decide) ?_
      refine zA_valI (w 89 c) (hf 89 c (Or.inl (by decide))) ?_
      refine zA_icmp_ge (tgt := 307) dX12_leanOf_19 (by decide) (by first | assumption | exact hr _ _ | exact inR_mk (by omega) (by omega)) (by first | assumption | exact hr _ _ | exact inR_mk (by omega) (by omega)) (fun c19 => ?_) (fun c19 => ?_)
      · skip
        refine zA_iload dX12_leanOf_307 rfl ?_
        refine zA_iret dX12_leanOf_309 rfl ?_
        have hq := mrS_fin (Y := (fun k => w 91 (10 * c + k))) (M := (fun k => w 92 (10 * c + k))) hs (fun a b f => by omega)
        exact ⟨bst, rfl, rfl, br, hf, hq⟩
      · skip
        refine zA_iconst dX12_leanOf_22 ?_
        refine zA_istore (lo1 := [zR 73, zI c, zI yr, zI k, zI bst, zI i, zI 0, .null, .null, .null, .null]) dX12_leanOf_23 (by decide) rfl rfl ?_
        have L25 : ∀ (z25 : Nat) (bst j : Int) (w1 : zW) (j0 : 0 ≤ j) (j1 : j ≤ w 89 c) (br : -4000000 ≤ bst ∧ bst ≤ 4000000) (hf : ∀ x y, (x ≠ 73 ∨ (y ≠ 33 ∧ y ≠ 34 ∧ y ≠ 35 ∧ y ≠ 36 ∧ y ≠ 37)) → w1 x y = w x y) (hs : mrS (fun x => w 91 (10 * c + x) - yr) (fun x => w 92 (10 * c + x) - w 90 c) (fun x => w 92 (10 * c + x) + w 90 c) (w 89 c) k (fun a b f => ((0 ≤ a ∧ a < w 89 c) ∧ (0 ≤ b ∧ b < w 89 c) ∧ 0 ≤ f ∧ f < 4) ∧ (a < i ∨ (a = i ∧ b < j))) (w1 73 37) bst) (zm : (w 89 c - j).toNat < z25), zA l mX12_leanOf false 3 0 0 (fun v' S' w' => ∃ bst : Int, v' = some (zI bst) ∧ S' = (ZZ t dr tx) ∧ (-4000000 ≤ bst ∧ bst ≤ 4000000) ∧ (∀ x y, (x ≠ 73 ∨ (y ≠ 33 ∧ y ≠ 34 ∧ y ≠ 35 ∧ y ≠ 36 ∧ y ≠ 37)) → w' x y = w x y) ∧ ((w' 73 37 = 0 ∧ ¬ hv (fun k => w 91 (10 * c + k)) (fun k => w 92 (10 * c + k)) (w 90 c) (w 89 c)) ∨ (w' 73 37 = 1 ∧ hv (fun k => w 91 (10 * c + k)) (fun k => w 92 (10 * c + k)) (w 90 c) (w 89 c) ∧ lnW (fun k => w 91 (10 * c + k)) (fun k => w 92 (10 * c + k)) (w 90 c) (w 89 c) k yr bst))) zNo 25 [zR 73, zI c, zI yr, zI k, zI bst, zI i, zI j, .null, .null, .null, .null] [] (ZZ t dr tx) w1 := by
          intro z25
          induction z25 with
          | zero => intro bst j w1 j0 j1 br hf hs zm; exact absurd zm (Nat.not_lt_zero _)
          | succ z25 ih25 =>
            intro bst j w1 j0 j1 br hf hs zm
            refine zA_range (fun hr => ?_)
            refine zA_iload dX12_leanOf_25 rfl ?_
            refine zA_aload_n dX12_leanOf_27 rfl ?_
            refine zA_getR (n := 89) dX12_leanOf_28 fX12_72 c73 rfl ?_
            refine zA_iload_n dX12_leanOf_31 rfl ?_
            refine zA_iaload dX12_leanOf_32 c89 (by first | assumption | omega) (by first | assumption | omega) (by decide) ?_
            refine zA_valI (w 89 c) (hf 89 c (Or.inl (by decide))) ?_
            refine zA_icmp_ge (tgt := 301) dX12_leanOf_33 (by decide) (by first | assumption | exact hr _ _ | exact inR_mk (by omega) (by omega)) (by first | assumption | exact hr _ _ | exact inR_mk (by omega) (by omega)) (fun c33 => ?_) (fun c33 => ?_)
            · skip
              refine zA_iinc (lo1 := [zR 73, zI c, zI yr, zI k, zI bst, zI (i + 1), zI j, .null, .null, .null, .null]) dX12_leanOf_301 rfl (by decide) rfl rfl ?_
              refine zA_goto (tgt := 11) dX12_leanOf_304 (by decide) ?_
              refine zA_drop 6 (lo1 := [zR 73, zI c, zI yr, zI k, zI bst, zI (i + 1), .null, .null, .null, .null, .null]) rfl ?_
              exact ih11 bst (i + 1) w1 (by omega) (by omega) br hf (mrS_V (fun a b f => by omega) hs) (by omega)
            · skip
              have hri := hrd i i0 (by omega)
              have hrj := hrd j j0 (by omega)
              refine zA_aload_n dX12_leanOf_36 rfl ?_
              refine zA_aload_n dX12_leanOf_37 rfl ?_
              refine zA_getR (n := 91) dX12_leanOf_38 fX12_78 c73 rfl ?_
              refine zA_bipush dX12_leanOf_41 rfl ?_
              refine zA_iload_n dX12_leanOf_43 rfl ?_
              refine zA_imul dX12_leanOf_44 ?_
              refine zA_iload dX12_leanOf_45 rfl ?_
              refine zA_iadd dX12_leanOf_47 ?_
              refine zA_iaload dX12_leanOf_48 c91 (by first | assumption | omega) (by first | assumption | omega) (by decide) ?_
              refine zA_putI dX12_leanOf_49 fX12_356 c73 rfl (by first | assumption | exact hr _ _ | exact inR_mk (by omega) (by omega)) ⟨rfl, rfl⟩ ?_
              refine zA_namew (fun w_2 hw_2 => ?_)
              refine zA_range (fun hr => ?_)
              replace hw_2 : w_2 = up w1 73 33 (w1 91 ((10 * c) + i)) := hw_2
              have e91 : ∀ q, w_2 91 q = w 91 q := fun q => by rw [hw_2, up_cell _ _ _ _ (by decide)]; exact hf 91 q (Or.inl (by decide))
              have e33y : w_2 73 33 = w 91 (10 * c + i) := by rw [hw_2, up_same]; exact hf 91 _ (Or.inl (by decide))
              refine zA_aload_n dX12_leanOf_52 rfl ?_
              refine zA_aload_n dX12_leanOf_53 rfl ?_
              refine zA_getR (n := 91) dX12_leanOf_54 fX12_78 c73 rfl ?_
              refine zA_bipush dX12_leanOf_57 rfl ?_
              refine zA_iload_n dX12_leanOf_59 rfl ?_
              refine zA_imul dX12_leanOf_60 ?_
              refine zA_iload dX12_leanOf_61 rfl ?_
              refine zA_iadd dX12_leanOf_63 ?_
              refine zA_iaload dX12_leanOf_64 c91 (by first | assumption | omega) (by first | assumption | omega) (by decide) ?_
              refine zA_valI (w 91 (10 * c + j)) (e91 _) ?_
              refine zA_aload_n dX12_leanOf_65 rfl ?_
              refine zA_getI dX12_leanOf_66 fX12_356 c73 rfl ?_
              refine zA_valI (w_2 73 33) rfl ?_
              refine zA_valI (w 91 (10 * c + i)) (e33y) ?_
              refine zA_isub dX12_leanOf_69 ?_
              refine zA_putI dX12_leanOf_70 fX12_350 c73 rfl (by first | assumption | exact hr _ _ | exact inR_mk (by omega) (by omega)) ⟨rfl, rfl⟩ ?_
              refine zA_namew (fun w_3 hw_3 => ?_)
              refine zA_range (fun hr => ?_)
              replace hw_3 : w_3 = up w_2 73 36 ((w 91 (10 * c + j)) - (w 91 (10 * c + i))) := hw_3
              have e33x : w_3 73 33 = w 91 (10 * c + i) := by rw [hw_3, up_idx _ _ _ _ (by decide)]; exact e33y
              have e36x : w_3 73 36 = (w 91 (10 * c + j) - w 91 (10 * c + i)) := by rw [hw_3, up_same]
              refine zA_aload_n dX12_leanOf_73 rfl ?_
              refine zA_getI dX12_leanOf_74 fX12_350 c73 rfl ?_
              refine zA_valI (w_3 73 36) rfl ?_
              refine zA_if_gt (tgt := 83) dX12_leanOf_77 (by decide) (by first | assumption | exact hr _ _ | exact inR_mk (by omega) (by omega)) (fun c77 => ?_) (fun c77 => ?_)
              · skip
                have L83 : ∀ (w2 : zW) (hf : ∀ x y, (x ≠ 73 ∨ (y ≠ 33 ∧ y ≠ 34 ∧ y ≠ 35 ∧ y ≠ 36 ∧ y ≠ 37)) → w2 x y = w x y) (e33 : w2 73 33 = w 91 (10 * c + i)) (e36 : w2 73 36 = w 91 (10 * c + j) - w 91 (10 * c + i)) (hpos : 0 < w2 73 36) (hs : mrS (fun x => w 91 (10 * c + x) - yr) (fun x => w 92 (10 * c + x) - w 90 c) (fun x => w 92 (10 * c + x) + w 90 c) (w 89 c) k (fun a b f => ((0 ≤ a ∧ a < w 89 c) ∧ (0 ≤ b ∧ b < w 89 c) ∧ 0 ≤ f ∧ f < 4) ∧ (a < i ∨ (a = i ∧ b < j))) (w2 73 37) bst), zA l mX12_leanOf false 3 0 0 (fun v' S' w' => ∃ bst : Int, v' = some (zI bst) ∧ S' = (ZZ t dr tx) ∧ (-4000000 ≤ bst ∧ bst ≤ 4000000) ∧ (∀ x y, (x ≠ 73 ∨ (y ≠ 33 ∧ y ≠ 34 ∧ y ≠ 35 ∧ y ≠ 36 ∧ y ≠ 37)) → w' x y = w x y) ∧ ((w' 73 37 = 0 ∧ ¬ hv (fun k => w 91 (10 * c + k)) (fun k => w 92 (10 * c + k)) (w 90 c) (w 89 c)) ∨ (w' 73 37 = 1 ∧ hv (fun k => w 91 (10 * c + k)) (fun k => w 92 (10 * c + k)) (w 90 c) (w 89 c) ∧ lnW (fun k => w 91 (10 * c + k)) (fun k => w 92 (10 * c + k)) (w 90 c) (w 89 c) k yr bst))) zNo 83 [zR 73, zI c, zI yr, zI k, zI bst, zI i, zI j, .null, .null, .null, .null] [] (ZZ t dr tx) w2 := by
                  intro w2 hf e33 e36 hpos hs
                  refine zA_range (fun hr => ?_)
                  refine zA_iconst dX12_leanOf_83 ?_
                  refine zA_istore (lo1 := [zR 73, zI c, zI yr, zI k, zI bst, zI i, zI j, zI 0, .null, .null, .null]) dX12_leanOf_84 (by decide) rfl rfl ?_
                  have L86 : ∀ (z86 : Nat) (bst e : Int) (w2 : zW) (e0 : 0 ≤ e) (e1 : e ≤ 4) (br : -4000000 ≤ bst ∧ bst ≤ 4000000) (hf : ∀ x y, (x ≠ 73 ∨ (y ≠ 33 ∧ y ≠ 34 ∧ y ≠ 35 ∧ y ≠ 36 ∧ y ≠ 37)) → w2 x y = w x y) (e33 : w2 73 33 = w 91 (10 * c + i)) (e36 : w2 73 36 = w 91 (10 * c + j) - w 91 (10 * c + i)) (hpos2 : 0 < (w 91 (10 * c + j) - w 91 (10 * c + i))) (hs : mrS (fun x => w 91 (10 * c + x) - yr) (fun x => w 92 (10 * c + x) - w 90 c) (fun x => w 92 (10 * c + x) + w 90 c) (w 89 c) k (fun a b f => ((0 ≤ a ∧ a < w 89 c) ∧ (0 ≤ b ∧ b < w 89 c) ∧ 0 ≤ f ∧ f < 4) ∧ (a < i ∨ (a = i ∧ (b < j ∨ (b = j ∧ f < e))))) (w2 73 37) bst) (zm : (4 - e).toNat < z86), zA l mX12_leanOf false 3 0 0 (fun v' S' w' => ∃ bst : Int, v' = some (zI bst) ∧ S' = (ZZ t dr tx) ∧ (-4000000 ≤ bst ∧ bst ≤ 4000000) ∧ (∀ x y, (x ≠ 73 ∨ (y ≠ 33 ∧ y ≠ 34 ∧ y ≠ 35 ∧ y ≠ 36 ∧ y ≠ 37)) → w' x y = w x y) ∧ ((w' 73 37 = 0 ∧ ¬ hv (fun k => w 91 (10 * c + k)) (fun k => w 92 (10 * c + k)) (w 90 c) (w 89 c)) ∨ (w' 73 37 = 1 ∧ hv (fun k => w 91 (10 * c + k)) (fun k => w 92 (10 * c + k)) (w 90 c) (w 89 c) ∧ lnW (fun k => w 91 (10 * c + k)) (fun k => w 92 (10 * c + k)) (w 90 c) (w 89 c) k yr bst))) zNo 86 [zR 73, zI c, zI yr, zI k, zI bst, zI i, zI j, zI e, .null, .null, .null] [] (ZZ t dr tx) w2 := by
                    intro z86
                    induction z86 with
                    | zero => intro bst e w2 e0 e1 br hf e33 e36 hpos2 hs zm; exact absurd zm (Nat.not_lt_zero _)
                    | succ z86 ih86 =>
                      intro bst e w2 e0 e1 br hf e33 e36 hpos2 hs zm
                      refine zA_range (fun hr => ?_)
                      refine zA_iload dX12_leanOf_86 rfl ?_
                      refine zA_iconst dX12_leanOf_88 ?_
                      refine zA_icmp_ge (tgt := 295) dX12_leanOf_89 (by decide) (by first | assumption | exact hr _ _ | exact inR_mk (by omega) (by omega)) ⟨by decide, by decide⟩ (fun k89 => ?_) (fun k89 => ?_)
                      · skip
                        refine zA_iinc (lo1 := [zR 73, zI c, zI yr, zI k, zI bst, zI i, zI (j + 1), zI e, .null, .null, .null]) dX12_leanOf_295 rfl (by decide) rfl rfl ?_
                        refine zA_goto (tgt := 25) dX12_leanOf_298 (by decide) ?_
                        refine zA_drop 7 (lo1 := [zR 73, zI c, zI yr, zI k, zI bst, zI i, zI (j + 1), .null, .null, .null, .null]) rfl ?_
                        exact ih25 bst (j + 1) w2 (by omega) (by omega) br hf (mrS_V (fun a b f => by omega) hs) (by omega)
                      · skip
                        refine zA_aload_n dX12_leanOf_92 rfl ?_
                        refine zA_aload_n dX12_leanOf_93 rfl ?_
                        refine zA_getR (n := 92) dX12_leanOf_94 fX12_81 c73 rfl ?_
                        refine zA_bipush dX12_leanOf_97 rfl ?_
                        refine zA_iload_n dX12_leanOf_99 rfl ?_
                        refine zA_imul dX12_leanOf_100 ?_
                        refine zA_iload dX12_leanOf_101 rfl ?_
                        refine zA_iadd dX12_leanOf_103 ?_
                        refine zA_iaload dX12_leanOf_104 c92 (by first | assumption | omega) (by first | assumption | omega) (by decide) ?_
                        refine zA_valI (w 92 (10 * c + i)) (hf 92 _ (Or.inl (by decide))) ?_
                        refine zA_iload dX12_leanOf_105 rfl ?_
                        refine zA_iconst dX12_leanOf_107 ?_
                        refine zA_irem dX12_leanOf_108 (by first | assumption | omega) (by first | assumption | omega) (by first | assumption | omega) (by first | assumption | omega) ?_
                        have L128 : ∀ (dd : Int) (hdd : dd = if e % 2 = 0 then w 90 c else -(w 90 c)) (ddr : -500 ≤ dd ∧ dd ≤ 500) , zA l mX12_leanOf false 3 0 0 (fun v' S' w' => ∃ bst : Int, v' = some (zI bst) ∧ S' = (ZZ t dr tx) ∧ (-4000000 ≤ bst ∧ bst ≤ 4000000) ∧ (∀ x y, (x ≠ 73 ∨ (y ≠ 33 ∧ y ≠ 34 ∧ y ≠ 35 ∧ y ≠ 36 ∧ y ≠ 37)) → w' x y = w x y) ∧ ((w' 73 37 = 0 ∧ ¬ hv (fun k => w 91 (10 * c + k)) (fun k => w 92 (10 * c + k)) (w 90 c) (w 89 c)) ∨ (w' 73 37 = 1 ∧ hv (fun k => w 91 (10 * c + k)) (fun k => w 92 (10 * c + k)) (w 90 c) (w 89 c) ∧ lnW (fun k => w 91 (10 * c + k)) (fun k => w 92 (10 * c + k)) (w 90 c) (w 89 c) k yr bst))) zNo 128 [zR 73, zI c, zI yr, zI k, zI bst, zI i, zI j, zI e, .null, .null, .null] [zI dd, zI (w 92 (10 * c + i)), zR 73] (ZZ t dr tx) w2 := by
                          intro dd hdd ddr
                          refine zA_iadd dX12_leanOf_128 ?_
                          refine zA_putI dX12_leanOf_129 fX12_347 c73 rfl (by first | assumption | exact hr _ _ | exact inR_mk (by omega) (by omega)) ⟨rfl, rfl⟩ ?_
                          refine zA_namew (fun w_4 hw_4 => ?_)
                          refine zA_range (fun hr => ?_)
                          replace hw_4 : w_4 = up w2 73 34 ((w 92 (10 * c + i)) + dd) := hw_4
                          have L132 : ∀ (w3 : zW) (hf3 : ∀ x y, (x ≠ 73 ∨ (y ≠ 33 ∧ y ≠ 34 ∧ y ≠ 35 ∧ y ≠ 36 ∧ y ≠ 37)) → w3 x y = w x y) (g33 : w3 73 33 = w 91 (10 * c + i)) (g36 : w3 73 36 = w 91 (10 * c + j) - w 91 (10 * c + i)) (e34 : w3 73 34 = (w 92 (10 * c + i) + dd)) (e37 : w3 73 37 = w2 73 37), zA l mX12_leanOf false 3 0 0 (fun v' S' w' => ∃ bst : Int, v' = some (zI bst) ∧ S' = (ZZ t dr tx) ∧ (-4000000 ≤ bst ∧ bst ≤ 4000000) ∧ (∀ x y, (x ≠ 73 ∨ (y ≠ 33 ∧ y ≠ 34 ∧ y ≠ 35 ∧ y ≠ 36 ∧ y ≠ 37)) → w' x y = w x y) ∧ ((w' 73 37 = 0 ∧ ¬ hv (fun k => w 91 (10 * c + k)) (fun k => w 92 (10 * c + k)) (w 90 c) (w 89 c)) ∨ (w' 73 37 = 1 ∧ hv (fun k => w 91 (10 * c + k)) (fun k => w 92 (10 * c + k)) (w 90 c) (w 89 c) ∧ lnW (fun k => w 91 (10 * c + k)) (fun k => w 92 (10 * c + k)) (w 90 c) (w 89 c) k yr bst))) zNo 132 [zR 73, zI c, zI yr, zI k, zI bst, zI i, zI j, zI e, .null, .null, .null] [] (ZZ t dr tx) w3 := by
                            intro w3 hf3 g33 g36 e34 e37
                            refine zA_range (fun hr => ?_)
                            refine zA_aload_n dX12_leanOf_132 rfl ?_
                            refine zA_aload_n dX12_leanOf_133 rfl ?_
                            refine zA_getR (n := 92) dX12_leanOf_134 fX12_81 c73 rfl ?_
                            refine zA_bipush dX12_leanOf_137 rfl ?_
                            refine zA_iload_n dX12_leanOf_139 rfl ?_
                            refine zA_imul dX12_leanOf_140 ?_
                            refine zA_iload dX12_leanOf_141 rfl ?_
                            refine zA_iadd dX12_leanOf_143 ?_
                            refine zA_iaload dX12_leanOf_144 c92 (by first | assumption | omega) (by first | assumption | omega) (by decide) ?_
                            refine zA_valI (w 92 (10 * c + j)) (hf3 92 _ (Or.inl (by decide))) ?_
                            refine zA_iload dX12_leanOf_145 rfl ?_
                            refine zA_iconst dX12_leanOf_147 ?_
                            refine zA_idiv dX12_leanOf_148 (by first | assumption | omega) (by first | assumption | omega) (by first | assumption | omega) (by first | assumption | omega) ?_
                            have L168 : ∀ (df : Int) (hdf : df = if e / 2 = 0 then w 90 c else -(w 90 c)) (dfr : -500 ≤ df ∧ df ≤ 500) , zA l mX12_leanOf false 3 0 0 (fun v' S' w' => ∃ bst : Int, v' = some (zI bst) ∧ S' = (ZZ t dr tx) ∧ (-4000000 ≤ bst ∧ bst ≤ 4000000) ∧ (∀ x y, (x ≠ 73 ∨ (y ≠ 33 ∧ y ≠ 34 ∧ y ≠ 35 ∧ y ≠ 36 ∧ y ≠ 37)) → w' x y = w x y) ∧ ((w' 73 37 = 0 ∧ ¬ hv (fun k => w 91 (10 * c + k)) (fun k => w 92 (10 * c + k)) (w 90 c) (w 89 c)) ∨ (w' 73 37 = 1 ∧ hv (fun k => w 91 (10 * c + k)) (fun k => w 92 (10 * c + k)) (w 90 c) (w 89 c) ∧ lnW (fun k => w 91 (10 * c + k)) (fun k => w 92 (10 * c + k)) (w 90 c) (w 89 c) k yr bst))) zNo 168 [zR 73, zI c, zI yr, zI k, zI bst, zI i, zI j, zI e, .null, .null, .null] [zI df, zI (w 92 (10 * c + j)), zR 73] (ZZ t dr tx) w3 := by
                              intro df hdf dfr
                              refine zA_iadd dX12_leanOf_168 ?_
                              refine zA_aload_n dX12_leanOf_169 rfl ?_
                              refine zA_getI dX12_leanOf_170 fX12_347 c73 rfl ?_
                              refine zA_valI (w3 73 34) rfl ?_
                              refine zA_valI (w 92 (10 * c + i) + dd) (e34) ?_
                              refine zA_isub dX12_leanOf_173 ?_
                              refine zA_putI dX12_leanOf_174 fX12_353 c73 rfl (by first | assumption | exact hr _ _ | exact inR_mk (by omega) (by omega)) ⟨rfl, rfl⟩ ?_
                              refine zA_namew (fun w_5 hw_5 => ?_)
                              refine zA_range (fun hr => ?_)
                              replace hw_5 : w_5 = up w3 73 35 (((w 92 (10 * c + j)) + df) - (w 92 (10 * c + i) + dd)) := hw_5
                              have L177 : ∀ (w4 : zW) (hf : ∀ x y, (x ≠ 73 ∨ (y ≠ 33 ∧ y ≠ 34 ∧ y ≠ 35 ∧ y ≠ 36 ∧ y ≠ 37)) → w4 x y = w x y) (f33 : w4 73 33 = w 91 (10 * c + i)) (f36 : w4 73 36 = w 91 (10 * c + j) - w 91 (10 * c + i)) (f34 : w4 73 34 = (w 92 (10 * c + i) + dd)) (f35 : w4 73 35 = (w 92 (10 * c + j) + df) - (w 92 (10 * c + i) + dd)) (f37 : w4 73 37 = w2 73 37), zA l mX12_leanOf false 3 0 0 (fun v' S' w' => ∃ bst : Int, v' = some (zI bst) ∧ S' = (ZZ t dr tx) ∧ (-4000000 ≤ bst ∧ bst ≤ 4000000) ∧ (∀ x y, (x ≠ 73 ∨ (y ≠ 33 ∧ y ≠ 34 ∧ y ≠ 35 ∧ y ≠ 36 ∧ y ≠ 37)) → w' x y = w x y) ∧ ((w' 73 37 = 0 ∧ ¬ hv (fun k => w 91 (10 * c + k)) (fun k => w 92 (10 * c + k)) (w 90 c) (w 89 c)) ∨ (w' 73 37 = 1 ∧ hv (fun k => w 91 (10 * c + k)) (fun k => w 92 (10 * c + k)) (w 90 c) (w 89 c) ∧ lnW (fun k => w 91 (10 * c + k)) (fun k => w 92 (10 * c + k)) (w 90 c) (w 89 c) k yr bst))) zNo 177 [zR 73, zI c, zI yr, zI k, zI bst, zI i, zI j, zI e, .null, .null, .null] [] (ZZ t dr tx) w4 := by
                                intro w4 hf f33 f36 f34 f35 f37
                                refine zA_range (fun hr => ?_)
                                refine zA_aload_n dX12_leanOf_177 rfl ?_
                                refine zA_iload_n dX12_leanOf_178 rfl ?_
                                refine zA_cV (st := []) dX12_leanOf_179 vX12_goesThrough kX12_365 (m_goesThrough (w := w4) (c := c) (fun x x0 x1 => by rw [hf 89 x (Or.inl (by decide)), hf 90 x (Or.inl (by decide))]; refine ⟨(hP x x0 x1).1, (hP x x0 x1).2.1, fun y y0 y1 => ?_⟩; rw [hf 91 _ (Or.inl (by decide)), hf 92 _ (Or.inl (by decide))]; exact (hP x x0 x1).2.2 y y0 y1) c0 c1 (by rw [f36]; exact hpos2) (by rw [f36]; omega) (by rw [f34]; omega) (by rw [f35]; omega) (by rw [f33]; omega)) (by decide) c73 rfl rfl (Nat.le_of_ble_eq_true rfl) rfl (zRp1_el (fun gt hgt => ?_))
                                have hgr := isB_R hgt
                                have hgf : gT w4 c ↔ fea (fun x => w 91 (10 * c + x) - yr) (fun x => w 92 (10 * c + x) - w 90 c) (fun x => w 92 (10 * c + x) + w 90 c) (w 89 c) ((w 92 (10 * c + i) + dd) * (w 91 (10 * c + j) - w 91 (10 * c + i)) + (((w 92 (10 * c + j) + df) - (w 92 (10 * c + i) + dd)) * (yr - w 91 (10 * c + i)))) ((w 92 (10 * c + j) + df) - (w 92 (10 * c + i) + dd)) (w 91 (10 * c + j) - w 91 (10 * c + i)) := by
                                  unfold gT fea off
                                  rw [hf 89 c (Or.inl (by decide)), hf 90 c (Or.inl (by decide)), f33, f34, f35, f36]
                                  refine ⟨fun h => ⟨hpos2, fun x x0 x1 => ?_⟩, fun h x x0 x1 => ?_⟩
                                  · have h2 := h x x0 x1
                                    rw [hf 91 _ (Or.inl (by decide)), hf 92 _ (Or.inl (by decide))] at h2
                                    exact off_f.mp h2
                                  · have h2 := h.2 x x0 x1
                                    rw [hf 91 _ (Or.inl (by decide)), hf 92 _ (Or.inl (by decide))]
                                    exact off_f.mpr h2
                                refine zA_if_ne (tgt := 188) dX12_leanOf_182 (by decide) (by first | assumption | exact hr _ _ | exact inR_mk (by omega) (by omega)) (fun c182 => ?_) (fun c182 => ?_)
                                · skip
                                  have hgv : gv (fun x => w 91 (10 * c + x) - yr) (fun x => w 92 (10 * c + x) - w 90 c) (fun x => w 92 (10 * c + x) + w 90 c) (w 89 c) i j e ((w 92 (10 * c + i) + dd) * (w 91 (10 * c + j) - w 91 (10 * c + i)) + (((w 92 (10 * c + j) + df) - (w 92 (10 * c + i) + dd)) * (yr - w 91 (10 * c + i)))) (w 91 (10 * c + j) - w 91 (10 * c + i)) := ⟨by show w 91 (10 * c + i) - yr < w 91 (10 * c + j) - yr; omega, by show _ = _ - yr - (_ - yr); omega, _, (w 92 (10 * c + i) + dd), (w 92 (10 * c + j) + df), by rw [hdd]; exact ite_pe.symm, by rw [hdf]; exact ite_pe.symm, rfl, by
                                    show _ = _ - _ * (w 91 (10 * c + i) - yr)
                                    rw [show yr - w 91 (10 * c + i) = -(w 91 (10 * c + i) - yr) by omega, Int.mul_neg]
                                    omega, hgf.mp (isB_ne hgt c182)⟩
                                  have qu := zmulA (x := (w 92 (10 * c + j) + df) - (w 92 (10 * c + i) + dd)) (y := yr - w 91 (10 * c + i)) (A := 7000) (B := 500) (by omega) (by omega) (by omega) (by omega)
                                  refine zA_aload_n dX12_leanOf_188 rfl ?_
                                  refine zA_getI dX12_leanOf_189 fX12_353 c73 rfl ?_
                                  refine zA_valI (w4 73 35) rfl ?_
                                  refine zA_iload_n dX12_leanOf_192 rfl ?_
                                  refine zA_aload_n dX12_leanOf_193 rfl ?_
                                  refine zA_getI dX12_leanOf_194 fX12_356 c73 rfl ?_
                                  refine zA_valI (w4 73 33) rfl ?_
                                  refine zA_valI (w 91 (10 * c + i)) (f33) ?_
                                  refine zA_isub dX12_leanOf_197 ?_
                                  refine zA_imul dX12_leanOf_198 ?_
                                  refine zA_valI (((w 92 (10 * c + j) + df) - (w 92 (10 * c + i) + dd)) * (yr - w 91 (10 * c + i))) (by rw [f35]) ?_
                                  refine zA_istore (lo1 := [zR 73, zI c, zI yr, zI k, zI bst, zI i, zI j, zI e, zI (((w 92 (10 * c + j) + df) - (w 92 (10 * c + i) + dd)) * (yr - w 91 (10 * c + i))), .null, .null]) dX12_leanOf_199 (by decide) rfl rfl ?_
                                  refine zA_aload_n dX12_leanOf_201 rfl ?_
                                  refine zA_getI dX12_leanOf_202 fX12_347 c73 rfl ?_
                                  refine zA_valI (w4 73 34) rfl ?_
                                  refine zA_valI (w 92 (10 * c + i) + dd) (f34) ?_
                                  refine zA_iload_n dX12_leanOf_205 rfl ?_
                                  have L232 : ∀ (fl : Int) (hfl : fl = if k = 0 then (((w 92 (10 * c + j) + df) - (w 92 (10 * c + i) + dd)) * (yr - w 91 (10 * c + i))) / (w 91 (10 * c + j) - w 91 (10 * c + i)) else -(-(((w 92 (10 * c + j) + df) - (w 92 (10 * c + i) + dd)) * (yr - w 91 (10 * c + i))) / (w 91 (10 * c + j) - w 91 (10 * c + i)))) (flr : -3600000 ≤ fl ∧ fl ≤ 3600000), zA l mX12_leanOf false 3 0 0 (fun v' S' w' => ∃ bst : Int, v' = some (zI bst) ∧ S' = (ZZ t dr tx) ∧ (-4000000 ≤ bst ∧ bst ≤ 4000000) ∧ (∀ x y, (x ≠ 73 ∨ (y ≠ 33 ∧ y ≠ 34 ∧ y ≠ 35 ∧ y ≠ 36 ∧ y ≠ 37)) → w' x y = w x y) ∧ ((w' 73 37 = 0 ∧ ¬ hv (fun k => w 91 (10 * c + k)) (fun k => w 92 (10 * c + k)) (w 90 c) (w 89 c)) ∨ (w' 73 37 = 1 ∧ hv (fun k => w 91 (10 * c + k)) (fun k => w 92 (10 * c + k)) (w 90 c) (w 89 c) ∧ lnW (fun k => w 91 (10 * c + k)) (fun k => w 92 (10 * c + k)) (w 90 c) (w 89 c) k yr bst))) zNo 232 [zR 73, zI c, zI yr, zI k, zI bst, zI i, zI j, zI e, zI (((w 92 (10 * c + j) + df) - (w 92 (10 * c + i) + dd)) * (yr - w 91 (10 * c + i))), .null, .null] [zI fl, zI (w 92 (10 * c + i) + dd)] (ZZ t dr tx) w4 := by
                                    intro fl hfl flr
                                    refine zA_iadd dX12_leanOf_232 ?_
                                    refine zA_istore (lo1 := [zR 73, zI c, zI yr, zI k, zI bst, zI i, zI j, zI e, zI (((w 92 (10 * c + j) + df) - (w 92 (10 * c + i) + dd)) * (yr - w 91 (10 * c + i))), zI ((w 92 (10 * c + i) + dd) + fl), .null]) dX12_leanOf_233 (by decide) rfl rfl ?_
                                    refine zA_drop 8 (lo1 := [zR 73, zI c, zI yr, zI k, zI bst, zI i, zI j, zI e, .null, zI ((w 92 (10 * c + i) + dd) + fl), .null]) rfl ?_
                                    have L235 : ∀ (v : Int) (hv2 : sb k v = sv k ((w 92 (10 * c + i) + dd) * (w 91 (10 * c + j) - w 91 (10 * c + i)) + (((w 92 (10 * c + j) + df) - (w 92 (10 * c + i) + dd)) * (yr - w 91 (10 * c + i)))) (w 91 (10 * c + j) - w 91 (10 * c + i))) (vr : -4000000 ≤ v ∧ v ≤ 4000000), zA l mX12_leanOf false 3 0 0 (fun v' S' w' => ∃ bst : Int, v' = some (zI bst) ∧ S' = (ZZ t dr tx) ∧ (-4000000 ≤ bst ∧ bst ≤ 4000000) ∧ (∀ x y, (x ≠ 73 ∨ (y ≠ 33 ∧ y ≠ 34 ∧ y ≠ 35 ∧ y ≠ 36 ∧ y ≠ 37)) → w' x y = w x y) ∧ ((w' 73 37 = 0 ∧ ¬ hv (fun k => w 91 (10 * c + k)) (fun k => w 92 (10 * c + k)) (w 90 c) (w 89 c)) ∨ (w' 73 37 = 1 ∧ hv (fun k => w 91 (10 * c + k)) (fun k => w 92 (10 * c + k)) (w 90 c) (w 89 c) ∧ lnW (fun k => w 91 (10 * c + k)) (fun k => w 92 (10 * c + k)) (w 90 c) (w 89 c) k yr bst))) zNo 235 [zR 73, zI c, zI yr, zI k, zI bst, zI i, zI j, zI e, .null, zI v, .null] [] (ZZ t dr tx) w4 := by
                                      intro v hv2 vr
                                      have hadd := mrS_add hs (i := i) (j := j) (e := e) (V' := (fun a b f => ((0 ≤ a ∧ a < w 89 c) ∧ (0 ≤ b ∧ b < w 89 c) ∧ 0 ≤ f ∧ f < 4) ∧ (a < i ∨ (a = i ∧ (b < j ∨ (b = j ∧ f < (e + 1))))))) (fun a b f => by omega) hgv hv2
                                      have hsk : (k = 0 → sb k bst = -bst ∧ sb k v = -v) ∧ (k ≠ 0 → sb k bst = bst ∧ sb k v = v) := by
                                        unfold sb
                                        exact ⟨fun q => by rw [if_pos q, if_pos q]; exact ⟨rfl, rfl⟩, fun q => by rw [if_neg q, if_neg q]; exact ⟨rfl, rfl⟩⟩
                                      have hh : w2 73 37 = 0 ∨ w2 73 37 = 1 := hs.elim (fun q => Or.inl q.1) (fun q => Or.inr q.1)
                                      refine zA_aload_n dX12_leanOf_235 rfl ?_
                                      refine zA_getI dX12_leanOf_236 fX12_362 c73 rfl ?_
                                      refine zA_valI (w4 73 37) rfl ?_
                                      have L268 : ∀ (is : Int) (his : (is = 1 ∧ (w2 73 37 = 0 ∨ sb k bst < sb k v)) ∨ (is = 0 ∧ ¬ (w2 73 37 = 0 ∨ sb k bst < sb k v))), zA l mX12_leanOf false 3 0 0 (fun v' S' w' => ∃ bst : Int, v' = some (zI bst) ∧ S' = (ZZ t dr tx) ∧ (-4000000 ≤ bst ∧ bst ≤ 4000000) ∧ (∀ x y, (x ≠ 73 ∨ (y ≠ 33 ∧ y ≠ 34 ∧ y ≠ 35 ∧ y ≠ 36 ∧ y ≠ 37)) → w' x y = w x y) ∧ ((w' 73 37 = 0 ∧ ¬ hv (fun k => w 91 (10 * c + k)) (fun k => w 92 (10 * c + k)) (w 90 c) (w 89 c)) ∨ (w' 73 37 = 1 ∧ hv (fun k => w 91 (10 * c + k)) (fun k => w 92 (10 * c + k)) (w 90 c) (w 89 c) ∧ lnW (fun k => w 91 (10 * c + k)) (fun k => w 92 (10 * c + k)) (w 90 c) (w 89 c) k yr bst))) zNo 268 [zR 73, zI c, zI yr, zI k, zI bst, zI i, zI j, zI e, .null, zI v, .null] [zI is] (ZZ t dr tx) w4 := by
                                        intro is his
                                        refine zA_istore (lo1 := [zR 73, zI c, zI yr, zI k, zI bst, zI i, zI j, zI e, .null, zI v, zI is]) dX12_leanOf_268 (by decide) rfl rfl ?_
                                        refine zA_iload dX12_leanOf_270 rfl ?_
                                        refine zA_if_eq (tgt := 280) dX12_leanOf_272 (by decide) (by first | assumption | exact hr _ _ | exact inR_mk (by omega) (by omega)) (fun c272 => ?_) (fun c272 => ?_)
                                        · skip
                                          refine zA_iload dX12_leanOf_280 rfl ?_
                                          refine zA_istore (lo1 := [zR 73, zI c, zI yr, zI k, zI bst, zI i, zI j, zI e, .null, zI v, zI is]) dX12_leanOf_282 (by decide) rfl rfl ?_
                                          refine zA_aload_n dX12_leanOf_284 rfl ?_
                                          refine zA_iconst dX12_leanOf_285 ?_
                                          refine zA_putI dX12_leanOf_286 fX12_362 c73 rfl ⟨by decide, by decide⟩ ⟨by rfl, by rfl⟩ ?_
                                          refine zA_namew (fun w_6 hw_6 => ?_)
                                          refine zA_range (fun hr => ?_)
                                          replace hw_6 : w_6 = up w4 73 37 1 := hw_6
                                          refine zA_iinc (lo1 := [zR 73, zI c, zI yr, zI k, zI bst, zI i, zI j, zI (e + 1), .null, zI v, zI is]) dX12_leanOf_289 rfl (by decide) rfl rfl ?_
                                          refine zA_goto (tgt := 86) dX12_leanOf_292 (by decide) ?_
                                          refine zA_drop 9 (lo1 := [zR 73, zI c, zI yr, zI k, zI bst, zI i, zI j, zI (e + 1), .null, .null, zI is]) rfl ?_
                                          refine zA_drop 10 (lo1 := [zR 73, zI c, zI yr, zI k, zI bst, zI i, zI j, zI (e + 1), .null, .null, .null]) rfl ?_
                                          exact ih86 _ (e + 1) _ (by omega) (by omega) (by omega) (fun x y h => by rw [hw_6, up_n (by omega)]; exact hf x y h) (by rw [hw_6, up_idx _ _ _ _ (by decide)]; exact f33) (by rw [hw_6, up_idx _ _ _ _ (by decide)]; exact f36) hpos2 (by
                                                      rw [hw_6, up_same]
                                                      first
                                                      | exact hadd.1 (by omega)
                                                      | exact hadd.2 (by omega)) (by omega)
                                        · skip
                                          refine zA_iload dX12_leanOf_275 rfl ?_
                                          refine zA_goto (tgt := 282) dX12_leanOf_277 (by decide) ?_
                                          refine zA_istore (lo1 := [zR 73, zI c, zI yr, zI k, zI v, zI i, zI j, zI e, .null, zI v, zI is]) dX12_leanOf_282 (by decide) rfl rfl ?_
                                          refine zA_aload_n dX12_leanOf_284 rfl ?_
                                          refine zA_iconst dX12_leanOf_285 ?_
                                          refine zA_putI dX12_leanOf_286 fX12_362 c73 rfl ⟨by decide, by decide⟩ ⟨by rfl, by rfl⟩ ?_
                                          refine zA_namew (fun w_7 hw_7 => ?_)
                                          refine zA_range (fun hr => ?_)
                                          replace hw_7 : w_7 = up w4 73 37 1 := hw_7
                                          refine zA_iinc (lo1 := [zR 73, zI c, zI yr, zI k, zI v, zI i, zI j, zI (e + 1), .null, zI v, zI is]) dX12_leanOf_289 rfl (by decide) rfl rfl ?_
                                          refine zA_goto (tgt := 86) dX12_leanOf_292 (by decide) ?_
                                          refine zA_drop 9 (lo1 := [zR 73, zI c, zI yr, zI k, zI v, zI i, zI j, zI (e + 1), .null, .null, zI is]) rfl ?_
                                          refine zA_drop 10 (lo1 := [zR 73, zI c, zI yr, zI k, zI v, zI i, zI j, zI (e + 1), .null, .null, .null]) rfl ?_
                                          exact ih86 _ (e + 1) _ (by omega) (by omega) (by omega) (fun x y h => by rw [hw_7, up_n (by omega)]; exact hf x y h) (by rw [hw_7, up_idx _ _ _ _ (by decide)]; exact f33) (by rw [hw_7, up_idx _ _ _ _ (by decide)]; exact f36) hpos2 (by
                                                      rw [hw_7, up_same]
                                                      first
                                                      | exact hadd.1 (by omega)
                                                      | exact hadd.2 (by omega)) (by omega)
                                      refine zA_valI (w2 73 37) (f37) ?_
                                      refine zA_if_eq (tgt := 263) dX12_leanOf_239 (by decide) (by first | assumption | exact hr _ _ | exact inR_mk (by omega) (by omega)) (fun c239 => ?_) (fun c239 => ?_)
                                      · skip
                                        refine zA_iconst dX12_leanOf_263 ?_
                                        refine zA_goto (tgt := 268) dX12_leanOf_264 (by decide) ?_
                                        exact L268 _ (Or.inl ⟨rfl, by omega⟩)
                                      · skip
                                        refine zA_iload_n dX12_leanOf_242 rfl ?_
                                        refine zA_if_ne (tgt := 256) dX12_leanOf_243 (by decide) (by first | assumption | exact hr _ _ | exact inR_mk (by omega) (by omega)) (fun c243 => ?_) (fun c243 => ?_)
                                        · skip
                                          refine zA_iload dX12_leanOf_256 rfl ?_
                                          refine zA_iload dX12_leanOf_258 rfl ?_
                                          refine zA_icmp_le (tgt := 267) dX12_leanOf_260 (by decide) (by first | assumption | exact hr _ _ | exact inR_mk (by omega) (by omega)) (by first | assumption | exact hr _ _ | exact inR_mk (by omega) (by omega)) (fun c260 => ?_) (fun c260 => ?_)
                                          · skip
                                            refine zA_iconst dX12_leanOf_267 ?_
                                            exact L268 _ (Or.inr ⟨rfl, by omega⟩)
                                          · skip
                                            refine zA_iconst dX12_leanOf_263 ?_
                                            refine zA_goto (tgt := 268) dX12_leanOf_264 (by decide) ?_
                                            exact L268 _ (Or.inl ⟨rfl, by omega⟩)
                                        · skip
                                          refine zA_iload dX12_leanOf_246 rfl ?_
                                          refine zA_iload dX12_leanOf_248 rfl ?_
                                          refine zA_icmp_ge (tgt := 267) dX12_leanOf_250 (by decide) (by first | assumption | exact hr _ _ | exact inR_mk (by omega) (by omega)) (by first | assumption | exact hr _ _ | exact inR_mk (by omega) (by omega)) (fun c250 => ?_) (fun c250 => ?_)
                                          · skip
                                            refine zA_iconst dX12_leanOf_267 ?_
                                            exact L268 _ (Or.inr ⟨rfl, by omega⟩)
                                          · skip
                                            refine zA_goto (tgt := 263) dX12_leanOf_253 (by decide) ?_
                                            refine zA_iconst dX12_leanOf_263 ?_
                                            refine zA_goto (tgt := 268) dX12_leanOf_264 (by decide) ?_
                                            exact L268 _ (Or.inl ⟨rfl, by omega⟩)
                                    exact L235 _ (by rw [hfl]; exact sv_eq (by omega) rfl) (by omega)
                                  refine zA_if_ne (tgt := 221) dX12_leanOf_206 (by decide) (by first | assumption | exact hr _ _ | exact inR_mk (by omega) (by omega)) (fun c206 => ?_) (fun c206 => ?_)
                                  · skip
                                    refine zA_iload dX12_leanOf_221 rfl ?_
                                    refine zA_ineg dX12_leanOf_223 ?_
                                    refine zA_aload_n dX12_leanOf_224 rfl ?_
                                    refine zA_getI dX12_leanOf_225 fX12_350 c73 rfl ?_
                                    refine zA_valI (w4 73 36) rfl ?_
                                    refine zA_valI (w 91 (10 * c + j) - w 91 (10 * c + i)) (f36) ?_
                                    refine zA_cS (st := [zI (w 92 (10 * c + i) + dd)]) dX12_leanOf_228 sJ9_floorDiv_7cf53 kX12_368 (s_floorDiv (w := w4) (S := (ZZ t dr tx)) (a := -(((w 92 (10 * c + j) + df) - (w 92 (10 * c + i) + dd)) * (yr - w 91 (10 * c + i)))) (b := (w 91 (10 * c + j) - w 91 (10 * c + i))) (inR_mk (by omega) (by omega)) (by omega) (by omega)) (by decide) rfl rfl (Nat.le_of_ble_eq_true rfl) (zRt_el ?_)
                                    show zA l mX12_leanOf false 3 0 0 (fun v' S' w' => ∃ bst : Int, v' = some (zI bst) ∧ S' = (ZZ t dr tx) ∧ (-4000000 ≤ bst ∧ bst ≤ 4000000) ∧ (∀ x y, (x ≠ 73 ∨ (y ≠ 33 ∧ y ≠ 34 ∧ y ≠ 35 ∧ y ≠ 36 ∧ y ≠ 37)) → w' x y = w x y) ∧ ((w' 73 37 = 0 ∧ ¬ hv (fun k => w 91 (10 * c + k)) (fun k => w 92 (10 * c + k)) (w 90 c) (w 89 c)) ∨ (w' 73 37 = 1 ∧ hv (fun k => w 91 (10 * c + k)) (fun k => w 92 (10 * c + k)) (w 90 c) (w 89 c) ∧ lnW (fun k => w 91 (10 * c + k)) (fun k => w 92 (10 * c + k)) (w 90 c) (w 89 c) k yr bst))) zNo 231 [zR 73, zI c, zI yr, zI k, zI bst, zI i, zI j, zI e, zI (((w 92 (10 * c + j) + df) - (w 92 (10 * c + i) + dd)) * (yr - w 91 (10 * c + i))), .null, .null] [zI (-(((w 92 (10 * c + j) + df) - (w 92 (10 * c + i) + dd)) * (yr - w 91 (10 * c + i))) / (w 91 (10 * c + j) - w 91 (10 * c + i))), zI (w 92 (10 * c + i) + dd)] (ZZ t dr tx) w4
                                    have hq1 := fl_b (N := -(((w 92 (10 * c + j) + df) - (w 92 (10 * c + i) + dd)) * (yr - w 91 (10 * c + i)))) (D := (w 91 (10 * c + j) - w 91 (10 * c + i))) (K := 3500000) (by omega) (by omega) (by omega) (by decide)
                                    refine zA_ineg dX12_leanOf_231 ?_
                                    exact L232 _ (by first | rw [if_pos (by omega)] | rw [if_neg (by omega)]) (by omega)
                                  · skip
                                    refine zA_iload dX12_leanOf_209 rfl ?_
                                    refine zA_aload_n dX12_leanOf_211 rfl ?_
                                    refine zA_getI dX12_leanOf_212 fX12_350 c73 rfl ?_
                                    refine zA_valI (w4 73 36) rfl ?_
                                    refine zA_valI (w 91 (10 * c + j) - w 91 (10 * c + i)) (f36) ?_
                                    refine zA_cS (st := [zI (w 92 (10 * c + i) + dd)]) dX12_leanOf_215 sJ9_floorDiv_7cf53 kX12_368 (s_floorDiv (w := w4) (S := (ZZ t dr tx)) (a := (((w 92 (10 * c + j) + df) - (w 92 (10 * c + i) + dd)) * (yr - w 91 (10 * c + i)))) (b := (w 91 (10 * c + j) - w 91 (10 * c + i))) (inR_mk (by omega) (by omega)) (by omega) (by omega)) (by decide) rfl rfl (Nat.le_of_ble_eq_true rfl) (zRt_el ?_)
                                    show zA l mX12_leanOf false 3 0 0 (fun v' S' w' => ∃ bst : Int, v' = some (zI bst) ∧ S' = (ZZ t dr tx) ∧ (-4000000 ≤ bst ∧ bst ≤ 4000000) ∧ (∀ x y, (x ≠ 73 ∨ (y ≠ 33 ∧ y ≠ 34 ∧ y ≠ 35 ∧ y ≠ 36 ∧ y ≠ 37)) → w' x y = w x y) ∧ ((w' 73 37 = 0 ∧ ¬ hv (fun k => w 91 (10 * c + k)) (fun k => w 92 (10 * c + k)) (w 90 c) (w 89 c)) ∨ (w' 73 37 = 1 ∧ hv (fun k => w 91 (10 * c + k)) (fun k => w 92 (10 * c + k)) (w 90 c) (w 89 c) ∧ lnW (fun k => w 91 (10 * c + k)) (fun k => w 92 (10 * c + k)) (w 90 c) (w 89 c) k yr bst))) zNo 218 [zR 73, zI c, zI yr, zI k, zI bst, zI i, zI j, zI e, zI (((w 92 (10 * c + j) + df) - (w 92 (10 * c + i) + dd)) * (yr - w 91 (10 * c + i))), .null, .null] [zI ((((w 92 (10 * c + j) + df) - (w 92 (10 * c + i) + dd)) * (yr - w 91 (10 * c + i))) / (w 91 (10 * c + j) - w 91 (10 * c + i))), zI (w 92 (10 * c + i) + dd)] (ZZ t dr tx) w4
                                    have hq1 := fl_b (N := (((w 92 (10 * c + j) + df) - (w 92 (10 * c + i) + dd)) * (yr - w 91 (10 * c + i)))) (D := (w 91 (10 * c + j) - w 91 (10 * c + i))) (K := 3500000) (by omega) (by omega) (by omega) (by decide)
                                    refine zA_goto (tgt := 232) dX12_leanOf_218 (by decide) ?_
                                    exact L232 _ (by first | rw [if_pos (by omega)] | rw [if_neg (by omega)]) (by omega)
                                · skip
                                  have hng : ∀ A D, ¬ gv (fun x => w 91 (10 * c + x) - yr) (fun x => w 92 (10 * c + x) - w 90 c) (fun x => w 92 (10 * c + x) + w 90 c) (w 89 c) i j e A D := fun A D g => isB_eq hgt c182 (hgf.mpr (by
                                    obtain ⟨g0, g1, B, p, q, g2, g3, g4, g5, g6⟩ := g
                                    have ep : p = (w 92 (10 * c + i) + dd) := by rw [hdd]; exact g2.trans ite_pe
                                    have eq : q = (w 92 (10 * c + j) + df) := by rw [hdf]; exact g3.trans ite_pe
                                    have eD : D = (w 91 (10 * c + j) - w 91 (10 * c + i)) := by rw [g1]; show _ - yr - (_ - yr) = _; omega
                                    have eA : A = ((w 92 (10 * c + i) + dd) * (w 91 (10 * c + j) - w 91 (10 * c + i)) + (((w 92 (10 * c + j) + df) - (w 92 (10 * c + i) + dd)) * (yr - w 91 (10 * c + i)))) := by
                                      rw [g5, g4, ep, eq, eD]
                                      show _ - _ * (w 91 (10 * c + i) - yr) = _
                                      rw [show yr - w 91 (10 * c + i) = -(w 91 (10 * c + i) - yr) by omega, Int.mul_neg]
                                      omega
                                    rw [eA, g4, ep, eq, eD] at g6
                                    exact g6))
                                  refine zA_goto (tgt := 289) dX12_leanOf_185 (by decide) ?_
                                  refine zA_iinc (lo1 := [zR 73, zI c, zI yr, zI k, zI bst, zI i, zI j, zI (e + 1), .null, .null, .null]) dX12_leanOf_289 rfl (by decide) rfl rfl ?_
                                  refine zA_goto (tgt := 86) dX12_leanOf_292 (by decide) ?_
                                  exact ih86 bst (e + 1) w4 (by omega) (by omega) br hf f33 f36 hpos2 (by
                                              rw [f37]
                                              exact mrS_no hs (fun a b f v => by
                                                by_cases g : (a < i ∨ (a = i ∧ (b < j ∨ (b = j ∧ f < e))))
                                                · exact Or.inl ⟨v.1, g⟩
                                                · refine Or.inr (fun A D g2 => ?_)
                                                  have ea : a = i := by omega
                                                  have eb : b = j := by omega
                                                  have ef : f = e := by omega
                                                  rw [ea, eb, ef] at g2
                                                  exact hng A D g2) (fun a b f v => by omega)) (by omega)
                              exact L177 _ (fun x y h => by rw [hw_5, up_n (by omega)]; exact hf3 x y h) (by rw [hw_5, up_idx _ _ _ _ (by decide)]; exact g33) (by rw [hw_5, up_idx _ _ _ _ (by decide)]; exact g36) (by rw [hw_5, up_idx _ _ _ _ (by decide)]; exact e34) (by rw [hw_5, up_same]) (by rw [hw_5, up_idx _ _ _ _ (by decide)]; exact e37)
                            refine zA_if_ne (tgt := 161) dX12_leanOf_149 (by decide) (by first | assumption | exact hr _ _ | exact inR_mk (by omega) (by omega)) (fun c149 => ?_) (fun c149 => ?_)
                            · skip
                              refine zA_aload_n dX12_leanOf_161 rfl ?_
                              refine zA_getR (n := 90) dX12_leanOf_162 fX12_75 c73 rfl ?_
                              refine zA_iload_n dX12_leanOf_165 rfl ?_
                              refine zA_iaload dX12_leanOf_166 c90 (by first | assumption | omega) (by first | assumption | omega) (by decide) ?_
                              refine zA_valI (w 90 c) (hf3 90 c (Or.inl (by decide))) ?_
                              refine zA_ineg dX12_leanOf_167 ?_
                              exact L168 _ (by first | rw [if_pos (by omega)] | rw [if_neg (by omega)]) (by omega)
                            · skip
                              refine zA_aload_n dX12_leanOf_152 rfl ?_
                              refine zA_getR (n := 90) dX12_leanOf_153 fX12_75 c73 rfl ?_
                              refine zA_iload_n dX12_leanOf_156 rfl ?_
                              refine zA_iaload dX12_leanOf_157 c90 (by first | assumption | omega) (by first | assumption | omega) (by decide) ?_
                              refine zA_valI (w 90 c) (hf3 90 c (Or.inl (by decide))) ?_
                              refine zA_goto (tgt := 168) dX12_leanOf_158 (by decide) ?_
                              exact L168 _ (by first | rw [if_pos (by omega)] | rw [if_neg (by omega)]) (by omega)
                          exact L132 _ (fun x y h => by rw [hw_4, up_n (by omega)]; exact hf x y h) (by rw [hw_4, up_idx _ _ _ _ (by decide)]; exact e33) (by rw [hw_4, up_idx _ _ _ _ (by decide)]; exact e36) (by rw [hw_4, up_same]) (by rw [hw_4, up_idx _ _ _ _ (by decide)])
                        refine zA_if_ne (tgt := 121) dX12_leanOf_109 (by decide) (by first | assumption | exact hr _ _ | exact inR_mk (by omega) (by omega)) (fun c109 => ?_) (fun c109 => ?_)
                        · skip
                          refine zA_aload_n dX12_leanOf_121 rfl ?_
                          refine zA_getR (n := 90) dX12_leanOf_122 fX12_75 c73 rfl ?_
                          refine zA_iload_n dX12_leanOf_125 rfl ?_
                          refine zA_iaload dX12_leanOf_126 c90 (by first | assumption | omega) (by first | assumption | omega) (by decide) ?_
                          refine zA_valI (w 90 c) (hf 90 c (Or.inl (by decide))) ?_
                          refine zA_ineg dX12_leanOf_127 ?_
                          exact L128 _ (by first | rw [if_pos (by omega)] | rw [if_neg (by omega)]) (by omega)
                        · skip
                          refine zA_aload_n dX12_leanOf_112 rfl ?_
                          refine zA_getR (n := 90) dX12_leanOf_113 fX12_75 c73 rfl ?_
                          refine zA_iload_n dX12_leanOf_116 rfl ?_
                          refine zA_iaload dX12_leanOf_117 c90 (by first | assumption | omega) (by first | assumption | omega) (by decide) ?_
                          refine zA_valI (w 90 c) (hf 90 c (Or.inl (by decide))) ?_
                          refine zA_goto (tgt := 128) dX12_leanOf_118 (by decide) ?_
                          exact L128 _ (by first | rw [if_pos (by omega)] | rw [if_neg (by omega)]) (by omega)
                  exact L86 _ bst 0 w2 (by omega) (by omega) br hf e33 e36 (by rw [← e36]; exact hpos) (mrS_V (fun a b f => by omega) hs) (Nat.lt_succ_self _)
                exact L83 _ (fun x y h => by rw [hw_3, up_n (by omega), hw_2, up_n (by omega)]; exact hf x y h) e33x e36x (by assumption) (by rw [hw_3, up_idx _ _ _ _ (by decide), hw_2, up_idx _ _ _ _ (by decide)]; exact hs)
              · skip
                refine zA_goto (tgt := 295) dX12_leanOf_80 (by decide) ?_
                refine zA_iinc (lo1 := [zR 73, zI c, zI yr, zI k, zI bst, zI i, zI (j + 1), .null, .null, .null, .null]) dX12_leanOf_295 rfl (by decide) rfl rfl ?_
                refine zA_goto (tgt := 25) dX12_leanOf_298 (by decide) ?_
                exact ih25 bst (j + 1) _ (by omega) (by omega) br (fun x y h => by rw [hw_3, up_n (by omega), hw_2, up_n (by omega)]; exact hf x y h) (by
                          rw [hw_3, up_idx _ _ _ _ (by decide), hw_2, up_idx _ _ _ _ (by decide)]
                          exact mrS_no hs (fun a b f v => by
                            by_cases g : a < i ∨ (a = i ∧ b < j)
                            · exact Or.inl ⟨v.1, g⟩
                            · refine Or.inr (fun A D g2 => ?_)
                              have g3 := g2.1
                              have ea : a = i := by omega
                              have eb : b = j := by omega
                              rw [ea, eb] at g3
                              have g4 : w 91 (10 * c + i) - yr < w 91 (10 * c + j) - yr := g3
                              omega) (fun a b f v => by omega)) (by omega)
        exact L25 _ bst 0 w1 (by omega) (by omega) br hf (mrS_V (fun a b f => by omega) hs) (Nat.lt_succ_self _)
  exact L11 _ 0 0 w_1 (by omega) (by omega) (by omega) (fun x y h => by rw [hw_1, up_n (by omega)]) (Or.inl ⟨by rw [hw_1, up_same], fun a b f A D v => by omega⟩) (Nat.lt_succ_self _)

set_option maxRecDepth 100000 in
set_option maxHeartbeats 4000000 in
theorem m_lean {l : Launch} {t dr tx : Nat} {w : zW} (hch0 : 0 ≤ w 75 0) (hch1 : w 75 0 ≤ 12) (hP : okMb w) {c yr k : Int} (hc : inR c) (ht : inR yr) (hk : inR k) : zSp l mX12_lean false 5 0 0 [zR 73, zI c, zI yr, zI k] (ZZ t dr tx) w (fun v' S' w' => S' = (ZZ t dr tx) ∧ (∀ x y, (x ≠ 73 ∨ (y ≠ 1 ∧ y ≠ 33 ∧ y ≠ 34 ∧ y ≠ 35 ∧ y ≠ 36 ∧ y ≠ 37)) → w' x y = w x y) ∧ ((¬ ((0 ≤ c ∧ c < w 75 0) ∧ 0 ≤ k ∧ k ≤ 1) ∧ v' = some (zI 0) ∧ w' 73 1 = 1) ∨ (((0 ≤ c ∧ c < w 75 0) ∧ 0 ≤ k ∧ k ≤ 1) ∧ ¬ ((0 ≤ yr ∧ yr ≤ 500) ∧ hv (fun k => w 91 (10 * c + k)) (fun k => w 92 (10 * c + k)) (w 90 c) (w 89 c)) ∧ v' = some (zI 0) ∧ w' 73 1 = 2) ∨ (((0 ≤ c ∧ c < w 75 0) ∧ 0 ≤ k ∧ k ≤ 1) ∧ ((0 ≤ yr ∧ yr ≤ 500) ∧ hv (fun k => w 91 (10 * c + k)) (fun k => w 92 (10 * c + k)) (w 90 c) (w 89 c)) ∧ w' 73 1 = 0 ∧ ∃ a, v' = some (zI a) ∧ lnW (fun k => w 91 (10 * c + k)) (fun k => w 92 (10 * c + k)) (w 90 c) (w 89 c) k yr a))) zNo := by
  refine zA_intro ⟨plainFor_of_name (by decide +kernel), Or.inl (by decide +kernel)⟩ rfl (Nat.le_of_ble_eq_true rfl) ?_
  refine zA_range (fun hr => ?_)
  show zA l mX12_lean false 5 0 0 (fun v' S' w' => S' = (ZZ t dr tx) ∧ (∀ x y, (x ≠ 73 ∨ (y ≠ 1 ∧ y ≠ 33 ∧ y ≠ 34 ∧ y ≠ 35 ∧ y ≠ 36 ∧ y ≠ 37)) → w' x y = w x y) ∧ ((¬ ((0 ≤ c ∧ c < w 75 0) ∧ 0 ≤ k ∧ k ≤ 1) ∧ v' = some (zI 0) ∧ w' 73 1 = 1) ∨ (((0 ≤ c ∧ c < w 75 0) ∧ 0 ≤ k ∧ k ≤ 1) ∧ ¬ ((0 ≤ yr ∧ yr ≤ 500) ∧ hv (fun k => w 91 (10 * c + k)) (fun k => w 92 (10 * c + k)) (w 90 c) (w 89 c)) ∧ v' = some (zI 0) ∧ w' 73 1 = 2) ∨ (((0 ≤ c ∧ c < w 75 0) ∧ 0 ≤ k ∧ k ≤ 1) ∧ ((0 ≤ yr ∧ yr ≤ 500) ∧ hv (fun k => w 91 (10 * c + k)) (fun k => w 92 (10 * c + k)) (w 90 c) (w 89 c)) ∧ w' 73 1 = 0 ∧ ∃ a, v' = some (zI a) ∧ lnW (fun k => w 91 (10 * c + k)) (fun k => w 92 (10 * c + k)) (w 90 c) (w 89 c) k yr a))) zNo 0 [zR 73, zI c, zI yr, zI k, .null] [] (ZZ t dr tx) w
  refine zA_aload_n dX12_lean_0 rfl ?_
  refine zA_iconst dX12_lean_1 ?_
  refine zA_putI dX12_lean_2 fX12_182 c73 rfl ⟨by decide, by decide⟩ ⟨rfl, rfl⟩ ?_
  refine zA_namew (fun w_1 hw_1 => ?_)
  refine zA_range (fun hr => ?_)
  replace hw_1 : w_1 = up w 73 1 0 := hw_1
  have ef : ∀ cc i, (cc ≠ 73 ∨ i ≠ 1) → w_1 cc i = w cc i := fun cc i h => by rw [hw_1, up_n h]
  have e1 : w_1 73 1 = 0 := by rw [hw_1, up_same]
  have e75 : w_1 75 0 = w 75 0 := ef 75 0 (Or.inl (by decide))
  have hP1 : okMb w_1 := fun x x0 x1 => by
    rw [ef 89 x (Or.inl (by decide)), ef 90 x (Or.inl (by decide))]
    refine ⟨(hP x x0 x1).1, (hP x x0 x1).2.1, fun y y0 y1 => ?_⟩
    rw [ef 91 _ (Or.inl (by decide)), ef 92 _ (Or.inl (by decide))]
    exact (hP x x0 x1).2.2 y y0 y1
  have eY : ∀ q, w_1 91 q = w 91 q := fun q => ef 91 q (Or.inl (by decide))
  have eM : ∀ q, w_1 92 q = w 92 q := fun q => ef 92 q (Or.inl (by decide))
  refine zA_aload_n dX12_lean_5 rfl ?_
  refine zA_iload_n dX12_lean_6 rfl ?_
  refine zA_cV (st := []) dX12_lean_7 vX12_isChimney kX12_321 (m_isChimney (w := w_1) (c := c) (by first | assumption | exact hr _ _ | exact inR_mk (by omega) (by omega)) (by omega) (by omega)) (by decide) c73 rfl rfl (Nat.le_of_ble_eq_true rfl) rfl (zRt_el ?_)
  show zA l mX12_lean false 5 0 0 (fun v' S' w' => S' = (ZZ t dr tx) ∧ (∀ x y, (x ≠ 73 ∨ (y ≠ 1 ∧ y ≠ 33 ∧ y ≠ 34 ∧ y ≠ 35 ∧ y ≠ 36 ∧ y ≠ 37)) → w' x y = w x y) ∧ ((¬ ((0 ≤ c ∧ c < w 75 0) ∧ 0 ≤ k ∧ k ≤ 1) ∧ v' = some (zI 0) ∧ w' 73 1 = 1) ∨ (((0 ≤ c ∧ c < w 75 0) ∧ 0 ≤ k ∧ k ≤ 1) ∧ ¬ ((0 ≤ yr ∧ yr ≤ 500) ∧ hv (fun k => w 91 (10 * c + k)) (fun k => w 92 (10 * c + k)) (w 90 c) (w 89 c)) ∧ v' = some (zI 0) ∧ w' 73 1 = 2) ∨ (((0 ≤ c ∧ c < w 75 0) ∧ 0 ≤ k ∧ k ≤ 1) ∧ ((0 ≤ yr ∧ yr ≤ 500) ∧ hv (fun k => w 91 (10 * c + k)) (fun k => w 92 (10 * c + k)) (w 90 c) (w 89 c)) ∧ w' 73 1 = 0 ∧ ∃ a, v' = some (zI a) ∧ lnW (fun k => w 91 (10 * c + k)) (fun k => w 92 (10 * c + k)) (w 90 c) (w 89 c) k yr a))) zNo 10 [zR 73, zI c, zI yr, zI k, .null] [zI (if 0 ≤ c ∧ c < w_1 75 0 then 1 else 0)] (ZZ t dr tx) w_1
  refine zA_if_eq (tgt := 22) dX12_lean_10 (by decide) (inR_ite _) (fun c10 => ?_) (fun c10 => ?_)
  · skip
    replace c10 := zite_eq c10
    refine zA_aload_n dX12_lean_22 rfl ?_
    refine zA_iconst dX12_lean_23 ?_
    refine zA_cV (st := []) dX12_lean_24 vX12_fail kX12_292 (m_fail (w := w_1) (k := 1) ⟨by decide, by decide⟩) (by decide) c73 rfl rfl (Nat.le_of_ble_eq_true rfl) rfl (zRt_el ?_)
    show zA l mX12_lean false 5 0 0 (fun v' S' w' => S' = (ZZ t dr tx) ∧ (∀ x y, (x ≠ 73 ∨ (y ≠ 1 ∧ y ≠ 33 ∧ y ≠ 34 ∧ y ≠ 35 ∧ y ≠ 36 ∧ y ≠ 37)) → w' x y = w x y) ∧ ((¬ ((0 ≤ c ∧ c < w 75 0) ∧ 0 ≤ k ∧ k ≤ 1) ∧ v' = some (zI 0) ∧ w' 73 1 = 1) ∨ (((0 ≤ c ∧ c < w 75 0) ∧ 0 ≤ k ∧ k ≤ 1) ∧ ¬ ((0 ≤ yr ∧ yr ≤ 500) ∧ hv (fun k => w 91 (10 * c + k)) (fun k => w 92 (10 * c + k)) (w 90 c) (w 89 c)) ∧ v' = some (zI 0) ∧ w' 73 1 = 2) ∨ (((0 ≤ c ∧ c < w 75 0) ∧ 0 ≤ k ∧ k ≤ 1) ∧ ((0 ≤ yr ∧ yr ≤ 500) ∧ hv (fun k => w 91 (10 * c + k)) (fun k => w 92 (10 * c + k)) (w 90 c) (w 89 c)) ∧ w' 73 1 = 0 ∧ ∃ a, v' = some (zI a) ∧ lnW (fun k => w 91 (10 * c + k)) (fun k => w 92 (10 * c + k)) (w 90 c) (w 89 c) k yr a))) zNo 27 [zR 73, zI c, zI yr, zI k, .null] [zI 0] (ZZ t dr tx) (up w_1 73 1 1)
    refine zA_iret dX12_lean_27 rfl ?_
    exact ⟨rfl, fun x y h => by rw [up_n (by omega), hw_1, up_n (by omega)], Or.inl ⟨by omega, rfl, up_same _ _ _ _⟩⟩
  · skip
    replace c10 := zite_ne c10
    refine zA_iload_n dX12_lean_13 rfl ?_
    refine zA_if_lt (tgt := 22) dX12_lean_14 (by decide) (by first | assumption | exact hr _ _ | exact inR_mk (by omega) (by omega)) (fun c14 => ?_) (fun c14 => ?_)
    · skip
      refine zA_aload_n dX12_lean_22 rfl ?_
      refine zA_iconst dX12_lean_23 ?_
      refine zA_cV (st := []) dX12_lean_24 vX12_fail kX12_292 (m_fail (w := w_1) (k := 1) ⟨by decide, by decide⟩) (by decide) c73 rfl rfl (Nat.le_of_ble_eq_true rfl) rfl (zRt_el ?_)
      show zA l mX12_lean false 5 0 0 (fun v' S' w' => S' = (ZZ t dr tx) ∧ (∀ x y, (x ≠ 73 ∨ (y ≠ 1 ∧ y ≠ 33 ∧ y ≠ 34 ∧ y ≠ 35 ∧ y ≠ 36 ∧ y ≠ 37)) → w' x y = w x y) ∧ ((¬ ((0 ≤ c ∧ c < w 75 0) ∧ 0 ≤ k ∧ k ≤ 1) ∧ v' = some (zI 0) ∧ w' 73 1 = 1) ∨ (((0 ≤ c ∧ c < w 75 0) ∧ 0 ≤ k ∧ k ≤ 1) ∧ ¬ ((0 ≤ yr ∧ yr ≤ 500) ∧ hv (fun k => w 91 (10 * c + k)) (fun k => w 92 (10 * c + k)) (w 90 c) (w 89 c)) ∧ v' = some (zI 0) ∧ w' 73 1 = 2) ∨ (((0 ≤ c ∧ c < w 75 0) ∧ 0 ≤ k ∧ k ≤ 1) ∧ ((0 ≤ yr ∧ yr ≤ 500) ∧ hv (fun k => w 91 (10 * c + k)) (fun k => w 92 (10 * c + k)) (w 90 c) (w 89 c)) ∧ w' 73 1 = 0 ∧ ∃ a, v' = some (zI a) ∧ lnW (fun k => w 91 (10 * c + k)) (fun k => w 92 (10 * c + k)) (w 90 c) (w 89 c) k yr a))) zNo 27 [zR 73, zI c, zI yr, zI k, .null] [zI 0] (ZZ t dr tx) (up w_1 73 1 1)
      refine zA_iret dX12_lean_27 rfl ?_
      exact ⟨rfl, fun x y h => by rw [up_n (by omega), hw_1, up_n (by omega)], Or.inl ⟨by omega, rfl, up_same _ _ _ _⟩⟩
    · skip
      refine zA_iload_n dX12_lean_17 rfl ?_
      refine zA_iconst dX12_lean_18 ?_
      refine zA_icmp_le (tgt := 28) dX12_lean_19 (by decide) (by first | assumption | exact hr _ _ | exact inR_mk (by omega) (by omega)) ⟨by decide, by decide⟩ (fun c19 => ?_) (fun c19 => ?_)
      · skip
        refine zA_iload_n dX12_lean_28 rfl ?_
        refine zA_iconst dX12_lean_29 ?_
        refine zA_sipush dX12_lean_30 rfl ?_
        refine zA_cS (st := []) dX12_lean_33 sX12_isIn kX12_185 (m_isIn (w := w_1) (a := yr) (b := 0) (e := 500) (by first | assumption | exact hr _ _ | exact inR_mk (by omega) (by omega)) ⟨by decide, by decide⟩ ⟨by decide, by decide⟩) (by decide) rfl rfl (Nat.le_of_ble_eq_true rfl) (zRt_el ?_)
        show zA l mX12_lean false 5 0 0 (fun v' S' w' => S' = (ZZ t dr tx) ∧ (∀ x y, (x ≠ 73 ∨ (y ≠ 1 ∧ y ≠ 33 ∧ y ≠ 34 ∧ y ≠ 35 ∧ y ≠ 36 ∧ y ≠ 37)) → w' x y = w x y) ∧ ((¬ ((0 ≤ c ∧ c < w 75 0) ∧ 0 ≤ k ∧ k ≤ 1) ∧ v' = some (zI 0) ∧ w' 73 1 = 1) ∨ (((0 ≤ c ∧ c < w 75 0) ∧ 0 ≤ k ∧ k ≤ 1) ∧ ¬ ((0 ≤ yr ∧ yr ≤ 500) ∧ hv (fun k => w 91 (10 * c + k)) (fun k => w 92 (10 * c + k)) (w 90 c) (w 89 c)) ∧ v' = some (zI 0) ∧ w' 73 1 = 2) ∨ (((0 ≤ c ∧ c < w 75 0) ∧ 0 ≤ k ∧ k ≤ 1) ∧ ((0 ≤ yr ∧ yr ≤ 500) ∧ hv (fun k => w 91 (10 * c + k)) (fun k => w 92 (10 * c + k)) (w 90 c) (w 89 c)) ∧ w' 73 1 = 0 ∧ ∃ a, v' = some (zI a) ∧ lnW (fun k => w 91 (10 * c + k)) (fun k => w 92 (10 * c + k)) (w 90 c) (w 89 c) k yr a))) zNo 36 [zR 73, zI c, zI yr, zI k, .null] [zI (if 0 ≤ yr ∧ yr ≤ 500 then 1 else 0)] (ZZ t dr tx) w_1
        refine zA_if_ne (tgt := 45) dX12_lean_36 (by decide) (inR_ite _) (fun c36 => ?_) (fun c36 => ?_)
        · skip
          replace c36 := zite_ne c36
          refine zA_aload_n dX12_lean_45 rfl ?_
          refine zA_iload_n dX12_lean_46 rfl ?_
          refine zA_iload_n dX12_lean_47 rfl ?_
          refine zA_iload_n dX12_lean_48 rfl ?_
          refine zA_cV (st := []) dX12_lean_49 vX12_leanOf kX12_371 (m_leanOf (w := w_1) (c := c) (yr := yr) (k := k) hP1 (by omega) (by omega) (by omega) (by omega) hk) (by decide) c73 rfl rfl (Nat.le_of_ble_eq_true rfl) rfl (fun q_2_v q_2_S q_2_w q_2 => ?_)
          obtain ⟨bst, rfl, rfl, hbr, hlf, hlr⟩ := q_2
          obtain ⟨wa, hwa⟩ : ∃ wa, wa = q_2_w := ⟨_, rfl⟩
          rw [← hwa] at hlf hlr ⊢
          rw [show (fun k => w_1 91 (10 * c + k)) = (fun k => w 91 (10 * c + k)) from funext fun q => eY _, show (fun k => w_1 92 (10 * c + k)) = (fun k => w 92 (10 * c + k)) from funext fun q => eM _, ef 89 c (Or.inl (by decide)), ef 90 c (Or.inl (by decide))] at hlr
          refine zA_range (fun hr => ?_)
          show zA l mX12_lean false 5 0 0 (fun v' S' w' => S' = (ZZ t dr tx) ∧ (∀ x y, (x ≠ 73 ∨ (y ≠ 1 ∧ y ≠ 33 ∧ y ≠ 34 ∧ y ≠ 35 ∧ y ≠ 36 ∧ y ≠ 37)) → w' x y = w x y) ∧ ((¬ ((0 ≤ c ∧ c < w 75 0) ∧ 0 ≤ k ∧ k ≤ 1) ∧ v' = some (zI 0) ∧ w' 73 1 = 1) ∨ (((0 ≤ c ∧ c < w 75 0) ∧ 0 ≤ k ∧ k ≤ 1) ∧ ¬ ((0 ≤ yr ∧ yr ≤ 500) ∧ hv (fun k => w 91 (10 * c + k)) (fun k => w 92 (10 * c + k)) (w 90 c) (w 89 c)) ∧ v' = some (zI 0) ∧ w' 73 1 = 2) ∨ (((0 ≤ c ∧ c < w 75 0) ∧ 0 ≤ k ∧ k ≤ 1) ∧ ((0 ≤ yr ∧ yr ≤ 500) ∧ hv (fun k => w 91 (10 * c + k)) (fun k => w 92 (10 * c + k)) (w 90 c) (w 89 c)) ∧ w' 73 1 = 0 ∧ ∃ a, v' = some (zI a) ∧ lnW (fun k => w 91 (10 * c + k)) (fun k => w 92 (10 * c + k)) (w 90 c) (w 89 c) k yr a))) zNo 52 [zR 73, zI c, zI yr, zI k, .null] [zI bst] (ZZ t dr tx) wa
          refine zA_istore (lo1 := [zR 73, zI c, zI yr, zI k, zI bst]) dX12_lean_52 (by decide) rfl rfl ?_
          refine zA_aload_n dX12_lean_54 rfl ?_
          refine zA_getI dX12_lean_55 fX12_362 c73 rfl ?_
          refine zA_valI (wa 73 37) rfl ?_
          refine zA_if_eq (tgt := 66) dX12_lean_58 (by decide) (by first | assumption | exact hr _ _ | exact inR_mk (by omega) (by omega)) (fun c58 => ?_) (fun c58 => ?_)
          · skip
            refine zA_aload_n dX12_lean_66 rfl ?_
            refine zA_iconst dX12_lean_67 ?_
            refine zA_cV (st := []) dX12_lean_68 vX12_fail kX12_292 (m_fail (w := wa) (k := 2) ⟨by decide, by decide⟩) (by decide) c73 rfl rfl (Nat.le_of_ble_eq_true rfl) rfl (zRt_el ?_)
            show zA l mX12_lean false 5 0 0 (fun v' S' w' => S' = (ZZ t dr tx) ∧ (∀ x y, (x ≠ 73 ∨ (y ≠ 1 ∧ y ≠ 33 ∧ y ≠ 34 ∧ y ≠ 35 ∧ y ≠ 36 ∧ y ≠ 37)) → w' x y = w x y) ∧ ((¬ ((0 ≤ c ∧ c < w 75 0) ∧ 0 ≤ k ∧ k ≤ 1) ∧ v' = some (zI 0) ∧ w' 73 1 = 1) ∨ (((0 ≤ c ∧ c < w 75 0) ∧ 0 ≤ k ∧ k ≤ 1) ∧ ¬ ((0 ≤ yr ∧ yr ≤ 500) ∧ hv (fun k => w 91 (10 * c + k)) (fun k => w 92 (10 * c + k)) (w 90 c) (w 89 c)) ∧ v' = some (zI 0) ∧ w' 73 1 = 2) ∨ (((0 ≤ c ∧ c < w 75 0) ∧ 0 ≤ k ∧ k ≤ 1) ∧ ((0 ≤ yr ∧ yr ≤ 500) ∧ hv (fun k => w 91 (10 * c + k)) (fun k => w 92 (10 * c + k)) (w 90 c) (w 89 c)) ∧ w' 73 1 = 0 ∧ ∃ a, v' = some (zI a) ∧ lnW (fun k => w 91 (10 * c + k)) (fun k => w 92 (10 * c + k)) (w 90 c) (w 89 c) k yr a))) zNo 71 [zR 73, zI c, zI yr, zI k, zI bst] [zI 0] (ZZ t dr tx) (up wa 73 1 2)
            refine zA_iret dX12_lean_71 rfl ?_
            exact ⟨rfl, fun x y h => by rw [up_n (by omega), hlf x y (by omega)]; exact ef x y (by omega), Or.inr (Or.inl ⟨by omega, fun q => by rcases hlr with h | h; exact h.2 q.2; omega, rfl, up_same _ _ _ _⟩)⟩
          · skip
            refine zA_iload dX12_lean_61 rfl ?_
            refine zA_goto (tgt := 71) dX12_lean_63 (by decide) ?_
            refine zA_iret dX12_lean_71 rfl ?_
            rcases hlr with h | h
            · omega
            · exact ⟨rfl, fun x y h => by rw [hlf x y (by omega)]; exact ef x y (by omega), Or.inr (Or.inr ⟨by omega, ⟨by omega, h.2.1⟩, by rw [hlf 73 1 (by decide)]; exact e1, bst, rfl, h.2.2⟩)⟩
        · skip
          replace c36 := zite_eq c36
          refine zA_aload_n dX12_lean_39 rfl ?_
          refine zA_iconst dX12_lean_40 ?_
          refine zA_cV (st := []) dX12_lean_41 vX12_fail kX12_292 (m_fail (w := w_1) (k := 2) ⟨by decide, by decide⟩) (by decide) c73 rfl rfl (Nat.le_of_ble_eq_true rfl) rfl (zRt_el ?_)
          show zA l mX12_lean false 5 0 0 (fun v' S' w' => S' = (ZZ t dr tx) ∧ (∀ x y, (x ≠ 73 ∨ (y ≠ 1 ∧ y ≠ 33 ∧ y ≠ 34 ∧ y ≠ 35 ∧ y ≠ 36 ∧ y ≠ 37)) → w' x y = w x y) ∧ ((¬ ((0 ≤ c ∧ c < w 75 0) ∧ 0 ≤ k ∧ k ≤ 1) ∧ v' = some (zI 0) ∧ w' 73 1 = 1) ∨ (((0 ≤ c ∧ c < w 75 0) ∧ 0 ≤ k ∧ k ≤ 1) ∧ ¬ ((0 ≤ yr ∧ yr ≤ 500) ∧ hv (fun k => w 91 (10 * c + k)) (fun k => w 92 (10 * c + k)) (w 90 c) (w 89 c)) ∧ v' = some (zI 0) ∧ w' 73 1 = 2) ∨ (((0 ≤ c ∧ c < w 75 0) ∧ 0 ≤ k ∧ k ≤ 1) ∧ ((0 ≤ yr ∧ yr ≤ 500) ∧ hv (fun k => w 91 (10 * c + k)) (fun k => w 92 (10 * c + k)) (w 90 c) (w 89 c)) ∧ w' 73 1 = 0 ∧ ∃ a, v' = some (zI a) ∧ lnW (fun k => w 91 (10 * c + k)) (fun k => w 92 (10 * c + k)) (w 90 c) (w 89 c) k yr a))) zNo 44 [zR 73, zI c, zI yr, zI k, .null] [zI 0] (ZZ t dr tx) (up w_1 73 1 2)
          refine zA_iret dX12_lean_44 rfl ?_
          exact ⟨rfl, fun x y h => by rw [up_n (by omega), hw_1, up_n (by omega)], Or.inr (Or.inl ⟨by omega, fun q => by omega, rfl, up_same _ _ _ _⟩)⟩
      · skip
        refine zA_aload_n dX12_lean_22 rfl ?_
        refine zA_iconst dX12_lean_23 ?_
        refine zA_cV (st := []) dX12_lean_24 vX12_fail kX12_292 (m_fail (w := w_1) (k := 1) ⟨by decide, by decide⟩) (by decide) c73 rfl rfl (Nat.le_of_ble_eq_true rfl) rfl (zRt_el ?_)
        show zA l mX12_lean false 5 0 0 (fun v' S' w' => S' = (ZZ t dr tx) ∧ (∀ x y, (x ≠ 73 ∨ (y ≠ 1 ∧ y ≠ 33 ∧ y ≠ 34 ∧ y ≠ 35 ∧ y ≠ 36 ∧ y ≠ 37)) → w' x y = w x y) ∧ ((¬ ((0 ≤ c ∧ c < w 75 0) ∧ 0 ≤ k ∧ k ≤ 1) ∧ v' = some (zI 0) ∧ w' 73 1 = 1) ∨ (((0 ≤ c ∧ c < w 75 0) ∧ 0 ≤ k ∧ k ≤ 1) ∧ ¬ ((0 ≤ yr ∧ yr ≤ 500) ∧ hv (fun k => w 91 (10 * c + k)) (fun k => w 92 (10 * c + k)) (w 90 c) (w 89 c)) ∧ v' = some (zI 0) ∧ w' 73 1 = 2) ∨ (((0 ≤ c ∧ c < w 75 0) ∧ 0 ≤ k ∧ k ≤ 1) ∧ ((0 ≤ yr ∧ yr ≤ 500) ∧ hv (fun k => w 91 (10 * c + k)) (fun k => w 92 (10 * c + k)) (w 90 c) (w 89 c)) ∧ w' 73 1 = 0 ∧ ∃ a, v' = some (zI a) ∧ lnW (fun k => w 91 (10 * c + k)) (fun k => w 92 (10 * c + k)) (w 90 c) (w 89 c) k yr a))) zNo 27 [zR 73, zI c, zI yr, zI k, .null] [zI 0] (ZZ t dr tx) (up w_1 73 1 1)
        refine zA_iret dX12_lean_27 rfl ?_
        exact ⟨rfl, fun x y h => by rw [up_n (by omega), hw_1, up_n (by omega)], Or.inl ⟨by omega, rfl, up_same _ _ _ _⟩⟩

set_option maxRecDepth 100000 in
set_option maxHeartbeats 4000000 in
theorem m_limit {l : Launch} {t dr tx : Nat} {w : zW} (hch0 : 0 ≤ w 75 0) (hch1 : w 75 0 ≤ 12) (hP : okMb w) {c lt k : Int} (hc : inR c) (hlt : inR lt) (hk : inR k) : zSp l mX12_limit false 5 0 0 [zR 73, zI c, zI lt, zI k] (ZZ t dr tx) w (fun v' S' w' => S' = (ZZ t dr tx) ∧ (∀ x y, (x ≠ 73 ∨ (y ≠ 1 ∧ y ≠ 33 ∧ y ≠ 34 ∧ y ≠ 35 ∧ y ≠ 36 ∧ y ≠ 37)) → w' x y = w x y) ∧ ((¬ ((0 ≤ c ∧ c < w 75 0) ∧ 0 ≤ k ∧ k ≤ 1) ∧ v' = some (zI 0) ∧ w' 73 1 = 1) ∨ (((0 ≤ c ∧ c < w 75 0) ∧ 0 ≤ k ∧ k ≤ 1) ∧ w' 73 1 = 0 ∧ ∃ r, v' = some (zI r) ∧ lmR (fun k => w 91 (10 * c + k)) (fun k => w 92 (10 * c + k)) (w 90 c) (w 89 c) k lt r))) zNo := by
  refine zA_intro ⟨plainFor_of_name (by decide +kernel), Or.inl (by decide +kernel)⟩ rfl (Nat.le_of_ble_eq_true rfl) ?_
  refine zA_range (fun hr => ?_)
  show zA l mX12_limit false 5 0 0 (fun v' S' w' => S' = (ZZ t dr tx) ∧ (∀ x y, (x ≠ 73 ∨ (y ≠ 1 ∧ y ≠ 33 ∧ y ≠ 34 ∧ y ≠ 35 ∧ y ≠ 36 ∧ y ≠ 37)) → w' x y = w x y) ∧ ((¬ ((0 ≤ c ∧ c < w 75 0) ∧ 0 ≤ k ∧ k ≤ 1) ∧ v' = some (zI 0) ∧ w' 73 1 = 1) ∨ (((0 ≤ c ∧ c < w 75 0) ∧ 0 ≤ k ∧ k ≤ 1) ∧ w' 73 1 = 0 ∧ ∃ r, v' = some (zI r) ∧ lmR (fun k => w 91 (10 * c + k)) (fun k => w 92 (10 * c + k)) (w 90 c) (w 89 c) k lt r))) zNo 0 [zR 73, zI c, zI lt, zI k, .null, .null, .null] [] (ZZ t dr tx) w
  refine zA_aload_n dX12_limit_0 rfl ?_
  refine zA_iconst dX12_limit_1 ?_
  refine zA_putI dX12_limit_2 fX12_182 c73 rfl ⟨by decide, by decide⟩ ⟨rfl, rfl⟩ ?_
  refine zA_namew (fun w_1 hw_1 => ?_)
  refine zA_range (fun hr => ?_)
  replace hw_1 : w_1 = up w 73 1 0 := hw_1
  have ef : ∀ cc i, (cc ≠ 73 ∨ i ≠ 1) → w_1 cc i = w cc i := fun cc i h => by rw [hw_1, up_n h]
  have e1 : w_1 73 1 = 0 := by rw [hw_1, up_same]
  have e75 : w_1 75 0 = w 75 0 := ef 75 0 (Or.inl (by decide))
  have hP1 : okMb w_1 := fun x x0 x1 => by
    rw [ef 89 x (Or.inl (by decide)), ef 90 x (Or.inl (by decide))]
    refine ⟨(hP x x0 x1).1, (hP x x0 x1).2.1, fun y y0 y1 => ?_⟩
    rw [ef 91 _ (Or.inl (by decide)), ef 92 _ (Or.inl (by decide))]
    exact (hP x x0 x1).2.2 y y0 y1
  have eY : ∀ q, w_1 91 q = w 91 q := fun q => ef 91 q (Or.inl (by decide))
  have eM : ∀ q, w_1 92 q = w 92 q := fun q => ef 92 q (Or.inl (by decide))
  refine zA_aload_n dX12_limit_5 rfl ?_
  refine zA_iload_n dX12_limit_6 rfl ?_
  refine zA_cV (st := []) dX12_limit_7 vX12_isChimney kX12_321 (m_isChimney (w := w_1) (c := c) (by first | assumption | exact hr _ _ | exact inR_mk (by omega) (by omega)) (by omega) (by omega)) (by decide) c73 rfl rfl (Nat.le_of_ble_eq_true rfl) rfl (zRt_el ?_)
  show zA l mX12_limit false 5 0 0 (fun v' S' w' => S' = (ZZ t dr tx) ∧ (∀ x y, (x ≠ 73 ∨ (y ≠ 1 ∧ y ≠ 33 ∧ y ≠ 34 ∧ y ≠ 35 ∧ y ≠ 36 ∧ y ≠ 37)) → w' x y = w x y) ∧ ((¬ ((0 ≤ c ∧ c < w 75 0) ∧ 0 ≤ k ∧ k ≤ 1) ∧ v' = some (zI 0) ∧ w' 73 1 = 1) ∨ (((0 ≤ c ∧ c < w 75 0) ∧ 0 ≤ k ∧ k ≤ 1) ∧ w' 73 1 = 0 ∧ ∃ r, v' = some (zI r) ∧ lmR (fun k => w 91 (10 * c + k)) (fun k => w 92 (10 * c + k)) (w 90 c) (w 89 c) k lt r))) zNo 10 [zR 73, zI c, zI lt, zI k, .null, .null, .null] [zI (if 0 ≤ c ∧ c < w_1 75 0 then 1 else 0)] (ZZ t dr tx) w_1
  refine zA_if_eq (tgt := 22) dX12_limit_10 (by decide) (inR_ite _) (fun c10 => ?_) (fun c10 => ?_)
  · skip
    replace c10 := zite_eq c10
    refine zA_aload_n dX12_limit_22 rfl ?_
    refine zA_iconst dX12_limit_23 ?_
    refine zA_cV (st := []) dX12_limit_24 vX12_fail kX12_292 (m_fail (w := w_1) (k := 1) ⟨by decide, by decide⟩) (by decide) c73 rfl rfl (Nat.le_of_ble_eq_true rfl) rfl (zRt_el ?_)
    show zA l mX12_limit false 5 0 0 (fun v' S' w' => S' = (ZZ t dr tx) ∧ (∀ x y, (x ≠ 73 ∨ (y ≠ 1 ∧ y ≠ 33 ∧ y ≠ 34 ∧ y ≠ 35 ∧ y ≠ 36 ∧ y ≠ 37)) → w' x y = w x y) ∧ ((¬ ((0 ≤ c ∧ c < w 75 0) ∧ 0 ≤ k ∧ k ≤ 1) ∧ v' = some (zI 0) ∧ w' 73 1 = 1) ∨ (((0 ≤ c ∧ c < w 75 0) ∧ 0 ≤ k ∧ k ≤ 1) ∧ w' 73 1 = 0 ∧ ∃ r, v' = some (zI r) ∧ lmR (fun k => w 91 (10 * c + k)) (fun k => w 92 (10 * c + k)) (w 90 c) (w 89 c) k lt r))) zNo 27 [zR 73, zI c, zI lt, zI k, .null, .null, .null] [zI 0] (ZZ t dr tx) (up w_1 73 1 1)
    refine zA_iret dX12_limit_27 rfl ?_
    exact ⟨rfl, fun x y h => by rw [up_n (by omega), hw_1, up_n (by omega)], Or.inl ⟨by omega, rfl, up_same _ _ _ _⟩⟩
  · skip
    replace c10 := zite_ne c10
    refine zA_iload_n dX12_limit_13 rfl ?_
    refine zA_if_lt (tgt := 22) dX12_limit_14 (by decide) (by first | assumption | exact hr _ _ | exact inR_mk (by omega) (by omega)) (fun c14 => ?_) (fun c14 => ?_)
    · skip
      refine zA_aload_n dX12_limit_22 rfl ?_
      refine zA_iconst dX12_limit_23 ?_
      refine zA_cV (st := []) dX12_limit_24 vX12_fail kX12_292 (m_fail (w := w_1) (k := 1) ⟨by decide, by decide⟩) (by decide) c73 rfl rfl (Nat.le_of_ble_eq_true rfl) rfl (zRt_el ?_)
      show zA l mX12_limit false 5 0 0 (fun v' S' w' => S' = (ZZ t dr tx) ∧ (∀ x y, (x ≠ 73 ∨ (y ≠ 1 ∧ y ≠ 33 ∧ y ≠ 34 ∧ y ≠ 35 ∧ y ≠ 36 ∧ y ≠ 37)) → w' x y = w x y) ∧ ((¬ ((0 ≤ c ∧ c < w 75 0) ∧ 0 ≤ k ∧ k ≤ 1) ∧ v' = some (zI 0) ∧ w' 73 1 = 1) ∨ (((0 ≤ c ∧ c < w 75 0) ∧ 0 ≤ k ∧ k ≤ 1) ∧ w' 73 1 = 0 ∧ ∃ r, v' = some (zI r) ∧ lmR (fun k => w 91 (10 * c + k)) (fun k => w 92 (10 * c + k)) (w 90 c) (w 89 c) k lt r))) zNo 27 [zR 73, zI c, zI lt, zI k, .null, .null, .null] [zI 0] (ZZ t dr tx) (up w_1 73 1 1)
      refine zA_iret dX12_limit_27 rfl ?_
      exact ⟨rfl, fun x y h => by rw [up_n (by omega), hw_1, up_n (by omega)], Or.inl ⟨by omega, rfl, up_same _ _ _ _⟩⟩
    · skip
      refine zA_iload_n dX12_limit_17 rfl ?_
      refine zA_iconst dX12_limit_18 ?_
      refine zA_icmp_le (tgt := 28) dX12_limit_19 (by decide) (by first | assumption | exact hr _ _ | exact inR_mk (by omega) (by omega)) ⟨by decide, by decide⟩ (fun c19 => ?_) (fun c19 => ?_)
      · skip
        refine zA_iconst dX12_limit_28 ?_
        refine zA_istore (lo1 := [zR 73, zI c, zI lt, zI k, zI 0, .null, .null]) dX12_limit_29 (by decide) rfl rfl ?_
        refine zA_iconst dX12_limit_31 ?_
        refine zA_istore (lo1 := [zR 73, zI c, zI lt, zI k, zI 0, zI 0, .null]) dX12_limit_32 (by decide) rfl rfl ?_
        obtain ⟨⟨m0, m1⟩, ⟨d0, d1⟩, hrd⟩ := hP c (by omega) (by omega)
        have L34 : ∀ (z34 : Nat) (v i : Int) (i0 : 0 ≤ i) (i1 : i ≤ w 89 c) (hvw : v = wkMost (fun k => w 91 (10 * c + k)) i.toNat) (v0 : 0 ≤ v) (v1 : v ≤ 300) (zm : (w 89 c - i).toNat < z34), zA l mX12_limit false 5 0 0 (fun v' S' w' => S' = (ZZ t dr tx) ∧ (∀ x y, (x ≠ 73 ∨ (y ≠ 1 ∧ y ≠ 33 ∧ y ≠ 34 ∧ y ≠ 35 ∧ y ≠ 36 ∧ y ≠ 37)) → w' x y = w x y) ∧ ((¬ ((0 ≤ c ∧ c < w 75 0) ∧ 0 ≤ k ∧ k ≤ 1) ∧ v' = some (zI 0) ∧ w' 73 1 = 1) ∨ (((0 ≤ c ∧ c < w 75 0) ∧ 0 ≤ k ∧ k ≤ 1) ∧ w' 73 1 = 0 ∧ ∃ r, v' = some (zI r) ∧ lmR (fun k => w 91 (10 * c + k)) (fun k => w 92 (10 * c + k)) (w 90 c) (w 89 c) k lt r))) zNo 34 [zR 73, zI c, zI lt, zI k, zI v, zI i, .null] [] (ZZ t dr tx) w_1 := by
          intro z34
          induction z34 with
          | zero => intro v i i0 i1 hvw v0 v1 zm; exact absurd zm (Nat.not_lt_zero _)
          | succ z34 ih34 =>
            intro v i i0 i1 hvw v0 v1 zm
            refine zA_iload dX12_limit_34 rfl ?_
            refine zA_aload_n dX12_limit_36 rfl ?_
            refine zA_getR (n := 89) dX12_limit_37 fX12_72 c73 rfl ?_
            refine zA_iload_n dX12_limit_40 rfl ?_
            refine zA_iaload dX12_limit_41 c89 (by first | assumption | omega) (by first | assumption | omega) (by decide) ?_
            refine zA_valI (w 89 c) (ef 89 c (Or.inl (by decide))) ?_
            refine zA_icmp_ge (tgt := 70) dX12_limit_42 (by decide) (by first | assumption | exact hr _ _ | exact inR_mk (by omega) (by omega)) (by first | assumption | exact hr _ _ | exact inR_mk (by omega) (by omega)) (fun c42 => ?_) (fun c42 => ?_)
            · skip
              have hvF : v = (wkMost (fun k => w 91 (10 * c + k)) (w 89 c).toNat) := by rw [hvw, show i = w 89 c by omega]
              refine zA_iload dX12_limit_70 rfl ?_
              refine zA_istore (lo1 := [zR 73, zI c, zI lt, zI k, zI v, zI v, .null]) dX12_limit_72 (by decide) rfl rfl ?_
              refine zA_drop 4 (lo1 := [zR 73, zI c, zI lt, zI k, .null, zI v, .null]) rfl ?_
              have L74 : ∀ (z74 : Nat) (y : Int) (w1 : zW) (y0 : (wkMost (fun k => w 91 (10 * c + k)) (w 89 c).toNat) ≤ y) (y00 : 0 ≤ y) (y1 : y ≤ 501) (hf : ∀ x y, (x ≠ 73 ∨ (y ≠ 33 ∧ y ≠ 34 ∧ y ≠ 35 ∧ y ≠ 36 ∧ y ≠ 37)) → w1 x y = w_1 x y) (hg : ∀ x : Int, (wkMost (fun k => w 91 (10 * c + k)) (w 89 c).toNat) ≤ x → x < y → hv (fun k => w 91 (10 * c + k)) (fun k => w 92 (10 * c + k)) (w 90 c) (w 89 c) ∧ ¬ lmP (fun k => w 91 (10 * c + k)) (fun k => w 92 (10 * c + k)) (w 90 c) (w 89 c) k lt x) (zm : (501 - y).toNat < z74), zA l mX12_limit false 5 0 0 (fun v' S' w' => S' = (ZZ t dr tx) ∧ (∀ x y, (x ≠ 73 ∨ (y ≠ 1 ∧ y ≠ 33 ∧ y ≠ 34 ∧ y ≠ 35 ∧ y ≠ 36 ∧ y ≠ 37)) → w' x y = w x y) ∧ ((¬ ((0 ≤ c ∧ c < w 75 0) ∧ 0 ≤ k ∧ k ≤ 1) ∧ v' = some (zI 0) ∧ w' 73 1 = 1) ∨ (((0 ≤ c ∧ c < w 75 0) ∧ 0 ≤ k ∧ k ≤ 1) ∧ w' 73 1 = 0 ∧ ∃ r, v' = some (zI r) ∧ lmR (fun k => w 91 (10 * c + k)) (fun k => w 92 (10 * c + k)) (w 90 c) (w 89 c) k lt r))) zNo 74 [zR 73, zI c, zI lt, zI k, .null, zI y, .null] [] (ZZ t dr tx) w1 := by
                intro z74
                induction z74 with
                | zero => intro y w1 y0 y00 y1 hf hg zm; exact absurd zm (Nat.not_lt_zero _)
                | succ z74 ih74 =>
                  intro y w1 y0 y00 y1 hf hg zm
                  refine zA_range (fun hr => ?_)
                  have hP2 : okMb w1 := fun x x0 x1 => by
                    rw [hf 89 x (Or.inl (by decide)), hf 90 x (Or.inl (by decide))]
                    refine ⟨(hP1 x x0 x1).1, (hP1 x x0 x1).2.1, fun y y0 y1 => ?_⟩
                    rw [hf 91 _ (Or.inl (by decide)), hf 92 _ (Or.inl (by decide))]
                    exact (hP1 x x0 x1).2.2 y y0 y1
                  have gf : ∀ x z, x ≠ 73 → w1 x z = w x z := fun x z h => (hf x z (Or.inl h)).trans (ef x z (Or.inl h))
                  refine zA_iload dX12_limit_74 rfl ?_
                  refine zA_sipush dX12_limit_76 rfl ?_
                  refine zA_icmp_gt (tgt := 118) dX12_limit_79 (by decide) (by first | assumption | exact hr _ _ | exact inR_mk (by omega) (by omega)) ⟨by decide, by decide⟩ (fun c79 => ?_) (fun c79 => ?_)
                  · skip
                    refine zA_iconst dX12_limit_118 ?_
                    refine zA_iret dX12_limit_119 rfl ?_
                    have FF := hf
                    exact ⟨rfl, fun x y h => by rw [FF x y (by omega)]; exact ef x y (by omega), Or.inr ⟨by omega, by rw [FF 73 1 (by decide)]; exact e1, _, rfl, fun q => Or.elim (Classical.em ((wkMost (fun k => w 91 (10 * c + k)) (w 89 c).toNat) < 501)) (fun g => absurd (hg _ (Int.le_refl _) (by omega)).1 q) (fun g => by omega), fun _ => Or.inl ⟨rfl, fun x x0 hx => by
                      by_cases g : x < y
                      · exact (hg x x0 g).2 hx
                      · have := hx.1; omega⟩⟩⟩
                  · skip
                    refine zA_aload_n dX12_limit_82 rfl ?_
                    refine zA_iload_n dX12_limit_83 rfl ?_
                    refine zA_iload dX12_limit_84 rfl ?_
                    refine zA_iconst dX12_limit_86 ?_
                    refine zA_iload_n dX12_limit_87 rfl ?_
                    refine zA_isub dX12_limit_88 ?_
                    refine zA_cV (st := []) dX12_limit_89 vX12_leanOf kX12_371 (m_leanOf (w := w1) (c := c) (yr := y) (k := 1 - k) hP2 (by omega) (by omega) (by omega) (by omega) (inR_mk (by omega) (by omega))) (by decide) c73 rfl rfl (Nat.le_of_ble_eq_true rfl) rfl (fun q_2_v q_2_S q_2_w q_2 => ?_)
                    obtain ⟨bst, rfl, rfl, hbr, hlf, hlr⟩ := q_2
                    obtain ⟨wa, hwa⟩ : ∃ wa, wa = q_2_w := ⟨_, rfl⟩
                    rw [← hwa] at hlf hlr ⊢
                    rw [show (fun k => w1 91 (10 * c + k)) = (fun k => w 91 (10 * c + k)) from funext fun q => gf _ _ (by decide), show (fun k => w1 92 (10 * c + k)) = (fun k => w 92 (10 * c + k)) from funext fun q => gf _ _ (by decide), gf 89 c (by decide), gf 90 c (by decide)] at hlr
                    refine zA_range (fun hr => ?_)
                    show zA l mX12_limit false 5 0 0 (fun v' S' w' => S' = (ZZ t dr tx) ∧ (∀ x y, (x ≠ 73 ∨ (y ≠ 1 ∧ y ≠ 33 ∧ y ≠ 34 ∧ y ≠ 35 ∧ y ≠ 36 ∧ y ≠ 37)) → w' x y = w x y) ∧ ((¬ ((0 ≤ c ∧ c < w 75 0) ∧ 0 ≤ k ∧ k ≤ 1) ∧ v' = some (zI 0) ∧ w' 73 1 = 1) ∨ (((0 ≤ c ∧ c < w 75 0) ∧ 0 ≤ k ∧ k ≤ 1) ∧ w' 73 1 = 0 ∧ ∃ r, v' = some (zI r) ∧ lmR (fun k => w 91 (10 * c + k)) (fun k => w 92 (10 * c + k)) (w 90 c) (w 89 c) k lt r))) zNo 92 [zR 73, zI c, zI lt, zI k, .null, zI y, .null] [zI bst] (ZZ t dr tx) wa
                    refine zA_istore (lo1 := [zR 73, zI c, zI lt, zI k, .null, zI y, zI bst]) dX12_limit_92 (by decide) rfl rfl ?_
                    refine zA_aload_n dX12_limit_94 rfl ?_
                    refine zA_getI dX12_limit_95 fX12_362 c73 rfl ?_
                    refine zA_valI (wa 73 37) rfl ?_
                    refine zA_if_ne (tgt := 103) dX12_limit_98 (by decide) (by first | assumption | exact hr _ _ | exact inR_mk (by omega) (by omega)) (fun c98 => ?_) (fun c98 => ?_)
                    · skip
                      refine zA_iload dX12_limit_103 rfl ?_
                      refine zA_iload_n dX12_limit_105 rfl ?_
                      refine zA_icmp_lt (tgt := 112) dX12_limit_106 (by decide) (by first | assumption | exact hr _ _ | exact inR_mk (by omega) (by omega)) (by first | assumption | exact hr _ _ | exact inR_mk (by omega) (by omega)) (fun c106 => ?_) (fun c106 => ?_)
                      · skip
                        refine zA_iinc (lo1 := [zR 73, zI c, zI lt, zI k, .null, zI (y + 1), zI bst]) dX12_limit_112 rfl (by decide) rfl rfl ?_
                        refine zA_goto (tgt := 74) dX12_limit_115 (by decide) ?_
                        refine zA_drop 6 (lo1 := [zR 73, zI c, zI lt, zI k, .null, zI (y + 1), .null]) rfl ?_
                        exact ih74 (y + 1) wa (by omega) (by omega) (by omega) (fun a b h => by rw [hlf a b h]; exact hf a b h) (fun x a b => by
                                rcases hlr with h | h
                                · omega
                                · refine ⟨h.2.1, ?_⟩
                                  by_cases e : x = y
                                  · rw [e]
                                    rintro ⟨-, a', h1, h2⟩
                                    have := lnW_u h1 h.2.2
                                    omega
                                  · exact (hg x a (by omega)).2) (by omega)
                      · skip
                        refine zA_iload dX12_limit_109 rfl ?_
                        refine zA_iret dX12_limit_111 rfl ?_
                        have FF : ∀ x z, (x ≠ 73 ∨ (z ≠ 33 ∧ z ≠ 34 ∧ z ≠ 35 ∧ z ≠ 36 ∧ z ≠ 37)) → wa x z = w_1 x z := fun x z h => (hlf x z h).trans (hf x z h)
                        rcases hlr with h | h
                        · omega
                        · exact ⟨rfl, fun x y h9 => by rw [FF x y (by omega)]; exact ef x y (by omega), Or.inr ⟨by omega, by rw [FF 73 1 (by decide)]; exact e1, _, rfl, fun q => absurd h.2.1 q, fun _ => Or.inr ⟨y0, ⟨by omega, bst, h.2.2, by omega⟩, fun x a b => (hg x a b).2⟩⟩⟩
                    · skip
                      refine zA_iconst dX12_limit_101 ?_
                      refine zA_iret dX12_limit_102 rfl ?_
                      have FF : ∀ x z, (x ≠ 73 ∨ (z ≠ 33 ∧ z ≠ 34 ∧ z ≠ 35 ∧ z ≠ 36 ∧ z ≠ 37)) → wa x z = w_1 x z := fun x z h => (hlf x z h).trans (hf x z h)
                      rcases hlr with h | h
                      · exact ⟨rfl, fun x y h9 => by rw [FF x y (by omega)]; exact ef x y (by omega), Or.inr ⟨by omega, by rw [FF 73 1 (by decide)]; exact e1, _, rfl, fun _ => rfl, fun q => absurd q h.2⟩⟩
                      · omega
              exact L74 _ v w_1 (by omega) (by omega) (by omega) (fun _ _ _ => rfl) (fun x a b => by omega) (Nat.lt_succ_self _)
            · skip
              have hri := hrd i i0 (by omega)
              refine zA_iload dX12_limit_45 rfl ?_
              refine zA_aload_n dX12_limit_47 rfl ?_
              refine zA_getR (n := 91) dX12_limit_48 fX12_78 c73 rfl ?_
              refine zA_bipush dX12_limit_51 rfl ?_
              refine zA_iload_n dX12_limit_53 rfl ?_
              refine zA_imul dX12_limit_54 ?_
              refine zA_iload dX12_limit_55 rfl ?_
              refine zA_iadd dX12_limit_57 ?_
              refine zA_iaload dX12_limit_58 c91 (by first | assumption | omega) (by first | assumption | omega) (by decide) ?_
              refine zA_valI (w 91 (10 * c + i)) (eY _) ?_
              refine zA_mmax dX12_limit_59 kmX12_375 zw_max (by first | assumption | exact hr _ _ | exact inR_mk (by omega) (by omega)) (by first | assumption | exact hr _ _ | exact inR_mk (by omega) (by omega)) (Nat.le_of_ble_eq_true rfl) ?_
              refine zA_istore (lo1 := [zR 73, zI c, zI lt, zI k, zI (max v (w 91 (10 * c + i))), zI i, .null]) dX12_limit_62 (by decide) rfl rfl ?_
              refine zA_iinc (lo1 := [zR 73, zI c, zI lt, zI k, zI (max v (w 91 (10 * c + i))), zI (i + 1), .null]) dX12_limit_64 rfl (by decide) rfl rfl ?_
              refine zA_goto (tgt := 34) dX12_limit_67 (by decide) ?_
              exact ih34 _ (i + 1) (by omega) (by omega) (by rw [zsucc i0]; simp only [wkMost]; rw [zcast i0, ← hvw]) (by omega) (by omega) (by omega)
        exact L34 _ 0 0 (by omega) (by omega) rfl (by omega) (by omega) (Nat.lt_succ_self _)
      · skip
        refine zA_aload_n dX12_limit_22 rfl ?_
        refine zA_iconst dX12_limit_23 ?_
        refine zA_cV (st := []) dX12_limit_24 vX12_fail kX12_292 (m_fail (w := w_1) (k := 1) ⟨by decide, by decide⟩) (by decide) c73 rfl rfl (Nat.le_of_ble_eq_true rfl) rfl (zRt_el ?_)
        show zA l mX12_limit false 5 0 0 (fun v' S' w' => S' = (ZZ t dr tx) ∧ (∀ x y, (x ≠ 73 ∨ (y ≠ 1 ∧ y ≠ 33 ∧ y ≠ 34 ∧ y ≠ 35 ∧ y ≠ 36 ∧ y ≠ 37)) → w' x y = w x y) ∧ ((¬ ((0 ≤ c ∧ c < w 75 0) ∧ 0 ≤ k ∧ k ≤ 1) ∧ v' = some (zI 0) ∧ w' 73 1 = 1) ∨ (((0 ≤ c ∧ c < w 75 0) ∧ 0 ≤ k ∧ k ≤ 1) ∧ w' 73 1 = 0 ∧ ∃ r, v' = some (zI r) ∧ lmR (fun k => w 91 (10 * c + k)) (fun k => w 92 (10 * c + k)) (w 90 c) (w 89 c) k lt r))) zNo 27 [zR 73, zI c, zI lt, zI k, .null, .null, .null] [zI 0] (ZZ t dr tx) (up w_1 73 1 1)
        refine zA_iret dX12_limit_27 rfl ?_
        exact ⟨rfl, fun x y h => by rw [up_n (by omega), hw_1, up_n (by omega)], Or.inl ⟨by omega, rfl, up_same _ _ _ _⟩⟩

