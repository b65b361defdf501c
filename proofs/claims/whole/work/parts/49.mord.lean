/-! the reference's orders -/
def mTr (w : zW) : Int → Int → Int := fun a b => w 82 (12 * a + b)
def ldF (m : Int) (w w' : zW) : Prop := (∀ c i, c ≠ 111 → c ≠ 112 → (c ≠ 73 ∨ (i ≠ 71 ∧ i ≠ 72)) → w' c i = w c i) ∧ ∀ i, i < m → w' 112 i = w 112 i
def ldW (w : zW) (n : Nat) (p : Int → Bool) (L T K : Int) : Int := K + T * oR (w 109) p + oC (w 109) (w 110) (mTr w) n p L
def ldQ (w : zW) (n : Nat) (p : Int → Bool) (L T K m : Int) (w' : zW) : Prop := ldF m w w' ∧
  ((w 73 72 ≠ -1 ∧ w 73 72 ≤ ldW w n p L T K ∧ w' 73 72 = w 73 72 ∧ w' 73 71 = w 73 71 ∧ ∀ i, w' 111 i = w 111 i) ∨
   ((w 73 72 = -1 ∨ ldW w n p L T K < w 73 72) ∧ w' 73 72 = ldW w n p L T K ∧ w' 73 71 = m + n ∧ ∀ i, 0 ≤ i → i < m + n → w' 111 i = if i < m then w 112 i else orow (w 109) (w 110) (mTr w) n p L (i - m)))
theorem ldF_rfl {m : Int} {w : zW} : ldF m w w := ⟨fun _ _ _ _ _ => rfl, fun _ _ => rfl⟩
theorem ldF_tr {m m' : Int} {w w' w'' : zW} (h : ldF m w w') (k : ldF m' w' w'') (hm : m ≤ m') : ldF m w w'' := ⟨fun c i a b e => (k.1 c i a b e).trans (h.1 c i a b e), fun i hi => (k.2 i (by omega)).trans (h.2 i hi)⟩
theorem ldF_up {m : Int} {w w' : zW} (h : ldF m w w') (v : Int) : ldF m w (up w' 112 m v) := ⟨fun c i a b e => by rw [up_cell _ _ _ _ b]; exact h.1 c i a b e, fun i hi => by rw [up_idx _ _ _ _ (by omega)]; exact h.2 i hi⟩
theorem ldF_rows {m : Int} {w w' : zW} (h : ldF m w w') : w' 109 = w 109 ∧ w' 110 = w 110 ∧ mTr w' = mTr w :=
  ⟨funext fun i => h.1 109 i (by decide) (by decide) (Or.inl (by decide)), funext fun i => h.1 110 i (by decide) (by decide) (Or.inl (by decide)), funext fun a => funext fun b => h.1 82 _ (by decide) (by decide) (Or.inl (by decide))⟩
theorem ldW_step {w : zW} {n : Nat} {p p' : Int → Bool} {L T K c T' : Int} (h0 : 0 ≤ c) (h1 : c < 12) (hp : p c = true) (hp' : agP p' (rmv p c)) (hT : T' = T + w 110 c + oWay (mTr w) L c) :
    ldW w n p' c T' (K + w 109 c * T') = K + T * oR (w 109) p + oF (w 109) (w 110) (mTr w) n p L c := by
  unfold ldW oF
  rw [oR_c hp', oC_c n _ _ c hp', Int.mul_comm (w 109 c) T']
  have e1 : T' * oR (w 109) p = T' * w 109 c + T' * oR (w 109) (rmv p c) := by rw [oR_rmv h0 h1 hp, Int.mul_add]
  have e2 : T' * oR (w 109) p = T * oR (w 109) p + w 110 c * oR (w 109) p + oWay (mTr w) L c * oR (w 109) p := by rw [hT, Int.add_mul, Int.add_mul]
  rw [Int.add_mul]
  omega
theorem tb_rmv {S c : Int} (s0 : 0 ≤ S) (s1 : S < 4096) (h0 : 0 ≤ c) (h1 : c < 12) : (0 ≤ iAnd S (iXor (iShl 1 c) (-1)) ∧ iAnd S (iXor (iShl 1 c) (-1)) < 4096) ∧ agP (tb (iAnd S (iXor (iShl 1 c) (-1)))) (rmv (tb S) c) := by
  have h := tb_clr (x := S) (i := c) s0 (by omega) h0 (by omega)
  refine ⟨⟨h.1.1, ?_⟩, fun x a b => by rw [h.2 x a]; rfl⟩
  have e := tb_lt (k := 12) h.1.1 (fun j hj => by
    rw [h.2 j (by omega), tb_hi (k := 12) (by rw [show (2 : Int) ^ 12 = 4096 by decide]; exact s1) hj]; rfl)
  rw [show (2 : Int) ^ 12 = 4096 by decide] at e
  exact e
theorem popN_tb {S : Int} (s0 : 0 ≤ S) (s1 : S < 4096) (h : S ≠ 0) : 0 < popN (tb S) := by
  refine Classical.byContradiction (fun hn => ?_)
  have hb : 0 ≤ popN (tb S) := zsum_b0 12 (fun k _ => by split <;> omega)
  have e : popN (tb S) = 0 := by omega
  refine h (tb_ext s0 (by decide) (fun j hj => ?_))
  rw [tb_0]
  by_cases g : j < 12
  · exact popN_0 e j hj g
  · exact tb_hi (k := 12) (by rw [show (2 : Int) ^ 12 = 4096 by decide]; exact s1) (by omega)
/-- where the loop over the chimneys stands -/
def ldI (w : zW) (n : Nat) (p : Int → Bool) (L T K m k : Int) (w1 : zW) : Prop :=
  (w1 73 72 = w 73 72 ∧ w1 73 71 = w 73 71 ∧ (∀ i, w1 111 i = w 111 i) ∧ ∀ c, 0 ≤ c → c < k → p c = true → w 73 72 ≠ -1 ∧ w 73 72 ≤ K + T * oR (w 109) p + oF (w 109) (w 110) (mTr w) n p L c) ∨
  (∃ c0, (0 ≤ c0 ∧ c0 < k) ∧ p c0 = true ∧ (w 73 72 = -1 ∨ K + T * oR (w 109) p + oF (w 109) (w 110) (mTr w) n p L c0 < w 73 72) ∧ w1 73 72 = K + T * oR (w 109) p + oF (w 109) (w 110) (mTr w) n p L c0 ∧ w1 73 71 = m + n + 1 ∧
    (∀ j, 0 ≤ j → j < c0 → p j = true → oF (w 109) (w 110) (mTr w) n p L c0 < oF (w 109) (w 110) (mTr w) n p L j) ∧ (∀ j, c0 < j → j < k → p j = true → oF (w 109) (w 110) (mTr w) n p L c0 ≤ oF (w 109) (w 110) (mTr w) n p L j) ∧
    ∀ i, 0 ≤ i → i < m + n + 1 → w1 111 i = if i < m then w 112 i else if i = m then c0 else orow (w 109) (w 110) (mTr w) n (rmv p c0) c0 (i - m - 1))
theorem ldI_skip {w w1 : zW} {n : Nat} {p : Int → Bool} {L T K m k : Int} (h : ldI w n p L T K m k w1) (hk : p k = false) : ldI w n p L T K m (k + 1) w1 := by
  rcases h with ⟨a, b, c, e⟩ | ⟨c0, a, b, c, e, f, g, h, i⟩
  · refine Or.inl ⟨a, b, c, fun j j0 j1 hj => ?_⟩
    by_cases hjk : j = k
    · rw [hjk, hk] at hj; cases hj
    · exact e j j0 (by omega) hj
  · refine Or.inr ⟨c0, by omega, b, c, e, f, g, fun j j0 j1 hj => ?_, i⟩
    by_cases hjk : j = k
    · rw [hjk, hk] at hj; cases hj
    · exact h j j0 (by omega) hj
theorem ldI_step {w w1 w2 : zW} {n : Nat} {p p' : Int → Bool} {L T K m k T' K' : Int} (hk0 : 0 ≤ k) (hk1 : k < 12) (hn : n < 12) (m0 : 0 ≤ m) (hpn : popN p = n + 1) (hok : okO (w 109) (w 110) (mTr w)) (hL : L = -1 ∨ (0 ≤ L ∧ L < 12)) (hp : p k = true) (hp' : agP p' (rmv p k)) (hT : T' = T + w 110 k + oWay (mTr w) L k) (hK : K' = K + w 109 k * T') (hb : 0 ≤ K + T * oR (w 109) p)
    (hF : ldF m w w1) (h : ldI w n p L T K m k w1) (hq : ldQ (up w1 112 m k) n p' k T' K' (m + 1) w2) : ldI w n p L T K m (k + 1) w2 := by
  obtain ⟨hq1, hq2⟩ := hq
  have hF2 := ldF_up hF k
  obtain ⟨r1, r2, r3⟩ := ldF_rows hF2
  have hfk := (oF_b hok hn hpn hL hk0 hk1 hp).1
  have eW : ldW (up w1 112 m k) n p' k T' K' = K + T * oR (w 109) p + oF (w 109) (w 110) (mTr w) n p L k := by
    rw [hK, ← ldW_step (n := n) (K := K) hk0 hk1 hp hp' hT]
    unfold ldW
    rw [r1, r2, r3]
  have u1 : up w1 112 m k 73 72 = w1 73 72 := up_cell _ _ _ _ (by decide)
  have u2 : up w1 112 m k 73 71 = w1 73 71 := up_cell _ _ _ _ (by decide)
  have u3 : ∀ i, up w1 112 m k 111 i = w1 111 i := fun i => up_cell _ _ _ _ (by decide)
  rw [eW, u1, u2, r1, r2, r3] at hq2
  rcases hq2 with ⟨q1, q2, q3, q4, q5⟩ | ⟨q1, q2, q3, q4⟩
  · rcases h with ⟨a, b, c, e⟩ | ⟨c0, a, b, c, e, f, g, h, i⟩
    · refine Or.inl ⟨by omega, by omega, fun i => by rw [q5 i, u3 i, c i], fun j j0 j1 hj => ?_⟩
      by_cases hjk : j = k
      · rw [hjk]; omega
      · exact e j j0 (by omega) hj
    · refine Or.inr ⟨c0, by omega, b, c, by omega, by omega, g, fun j j0 j1 hj => ?_, fun x x0 x1 => by rw [q5 x, u3 x, i x x0 x1]⟩
      by_cases hjk : j = k
      · rw [hjk]; omega
      · exact h j j0 (by omega) hj
  · refine Or.inr ⟨k, by omega, hp, ?_, q2, by omega, fun j j0 j1 hj => ?_, fun j j0 j1 hj => by omega, fun x x0 x1 => ?_⟩
    · rcases h with ⟨a, b, c, e⟩ | ⟨c0, a, b, c, e, f, g, h, i⟩
      · omega
      · have := (oF_b hok hn hpn hL a.1 (by omega) b).1
        omega
    · rcases h with ⟨a, b, c, e⟩ | ⟨c0, a, b, c, e, f, g, h, i⟩
      · have := e j j0 j1 hj; omega
      · have h0 := (oF_b hok hn hpn hL a.1 (by omega) b).1
        rcases Int.lt_trichotomy j c0 with x | x | x
        · have := g j j0 x hj; omega
        · rw [x]; omega
        · have := h j x j1 hj; omega
    · rw [q4 x x0 (by omega)]
      by_cases g1 : x < m
      · rw [if_pos (by omega), if_pos g1, up_idx _ _ _ _ (by omega)]; exact hF.2 x g1
      · rw [if_neg g1]
        by_cases g2 : x = m
        · rw [if_pos (by omega), if_pos g2, g2, up_same]
        · rw [if_neg (by omega), if_neg g2, show x - (m + 1) = x - m - 1 by omega]
          exact orow_c _ _ _ _ _ hp'
theorem ldI_end {w w1 : zW} {n : Nat} {p : Int → Bool} {L T K m : Int} (hn : n < 12) (hpn : popN p = n + 1) (hok : okO (w 109) (w 110) (mTr w)) (hL : L = -1 ∨ (0 ≤ L ∧ L < 12)) (hF : ldF m w w1) (h : ldI w n p L T K m 12 w1) : ldQ w (n + 1) p L T K m w1 := by
  refine ⟨hF, ?_⟩
  rcases h with ⟨a, b, c, e⟩ | ⟨c0, a, b, c, e, f, g, h, i⟩
  · obtain ⟨g1, g2, g3⟩ := oNx_e hok hn hpn hL
    have := e _ g1.1 g1.2 g2
    refine Or.inl ⟨this.1, ?_, a, b, c⟩
    unfold ldW
    rw [← g3]
    exact this.2
  · obtain ⟨g1, g2⟩ := oNx_u hok hn hpn hL a.1 a.2 b g h
    refine Or.inr ⟨?_, ?_, by rw [f]; omega, fun x x0 x1 => ?_⟩
    · unfold ldW; rw [g1]; exact c
    · unfold ldW; rw [g1]; exact e
    · rw [i x x0 (by omega)]
      simp only [orow]
      rw [g2]
      by_cases q : x < m
      · rw [if_pos q, if_pos q]
      · rw [if_neg q, if_neg q]
        by_cases q2 : x = m
        · rw [if_pos q2, if_pos (by omega)]
        · rw [if_neg q2, if_neg (by omega)]
set_option maxRecDepth 100000 in
set_option maxHeartbeats 4000000 in
theorem m_lead_s {l : Launch} {t dr tx : Nat} {w : zW} {n : Nat} (IH : ∀ (q : Nat), q < n → ∀ (w : zW) (S m T K L : Int) (s0 : 0 ≤ S) (s1 : S < 4096) (hpn : popN (tb S) = (q : Nat)) (m0 : 0 ≤ m) (mn : m + (q : Nat) ≤ 9) (T0 : 0 ≤ T) (T1 : T ≤ m * 108) (K0 : 0 ≤ K) (K1 : K ≤ m * 1000000) (hLd : L = if m = 0 then -1 else w 112 (m - 1)) (hL : L = -1 ∨ (0 ≤ L ∧ L < 12)) (hL2 : m ≠ 0 → 0 ≤ L) (hok : okO (w 109) (w 110) (mTr w)) (hB : -1 ≤ w 73 72), zSp l mX12_lead false (q + 3) 0 0 [zR 73, zI S, zI m, zI T, zI K] (ZZ t dr tx) w (fun v' S' w' => v' = none ∧ S' = (ZZ t dr tx) ∧ ldQ w q (tb S) L T K m w') zNo) {S m T K L : Int} (s0 : 0 ≤ S) (s1 : S < 4096) (hpn : popN (tb S) = (n : Nat)) (m0 : 0 ≤ m) (mn : m + (n : Nat) ≤ 9) (T0 : 0 ≤ T) (T1 : T ≤ m * 108) (K0 : 0 ≤ K) (K1 : K ≤ m * 1000000) (hLd : L = if m = 0 then -1 else w 112 (m - 1)) (hL : L = -1 ∨ (0 ≤ L ∧ L < 12)) (hL2 : m ≠ 0 → 0 ≤ L) (hok : okO (w 109) (w 110) (mTr w)) (hB : -1 ≤ w 73 72) : zSp l mX12_lead false (n + 3) 0 0 [zR 73, zI S, zI m, zI T, zI K] (ZZ t dr tx) w (fun v' S' w' => v' = none ∧ S' = (ZZ t dr tx) ∧ ldQ w n (tb S) L T K m w') zNo := by
  refine zA_intro ⟨plainFor_of_name (by decide +kernel), Or.inl (by decide +kernel)⟩ rfl (Nat.le_of_ble_eq_true rfl) ?_
  have hRb := oR_b hok (tb S)
  have hCb := oC_b hok n (tb S) L (by omega) hpn hL
  have hm1 := zmulB (x := T) (y := oR (w 109) (tb S)) (A := 972) (B := 11988) T0 (by omega) hRb.1 hRb.2
  refine zA_range (fun hr => ?_)
  show zA l mX12_lead false (n + 3) 0 0 (fun v' S' w' => v' = none ∧ S' = (ZZ t dr tx) ∧ ldQ w n (tb S) L T K m w') zNo 0 [zR 73, zI S, zI m, zI T, zI K, .null, .null] [] (ZZ t dr tx) w
  refine zA_aload_n dX12_lead_0 rfl ?_
  refine zA_getI dX12_lead_1 fX12_476 c73 rfl ?_
  refine zA_valI (w 73 72) rfl ?_
  refine zA_iconst dX12_lead_4 ?_
  refine zA_icmp_eq (tgt := 18) dX12_lead_5 (by decide) (by first | assumption | exact hr _ _ | exact inR_mk (by omega) (by omega)) ⟨by decide, by decide⟩ (fun c5 => ?_) (fun c5 => ?_)
  · skip
    refine zA_iload_n dX12_lead_18 rfl ?_
    refine zA_if_ne (tgt := 63) dX12_lead_19 (by decide) (by first | assumption | exact hr _ _ | exact inR_mk (by omega) (by omega)) (fun c19 => ?_) (fun c19 => ?_)
    · skip
      have hpp := popN_tb s0 s1 (by omega)
      obtain ⟨n1, hn1⟩ : ∃ n1 : Nat, n = n1 + 1 := ⟨n - 1, by omega⟩
      refine zA_iconst dX12_lead_63 ?_
      refine zA_istore (lo1 := [zR 73, zI S, zI m, zI T, zI K, zI 0, .null]) dX12_lead_64 (by decide) rfl rfl ?_
      have L66 : ∀ (z66 : Nat) (k : Int) (w1 : zW) (k0 : 0 ≤ k) (k1 : k ≤ 12) (hF : ldF m w w1) (hI : ldI w n1 (tb S) L T K m k w1) (hB1 : -1 ≤ w1 73 72) (zm : (12 - k).toNat < z66), zA l mX12_lead false (n + 3) 0 0 (fun v' S' w' => v' = none ∧ S' = (ZZ t dr tx) ∧ ldQ w n (tb S) L T K m w') zNo 66 [zR 73, zI S, zI m, zI T, zI K, zI k, .null] [] (ZZ t dr tx) w1 := by
        intro z66
        induction z66 with
        | zero => intro k w1 k0 k1 hF hI hB1 zm; exact absurd zm (Nat.not_lt_zero _)
        | succ z66 ih66 =>
          intro k w1 k0 k1 hF hI hB1 zm
          refine zA_range (fun hr => ?_)
          refine zA_iload dX12_lead_66 rfl ?_
          refine zA_bipush dX12_lead_68 rfl ?_
          refine zA_icmp_ge (tgt := 168) dX12_lead_70 (by decide) (by first | assumption | exact hr _ _ | exact inR_mk (by omega) (by omega)) ⟨by decide, by decide⟩ (fun c70 => ?_) (fun c70 => ?_)
          · skip
            refine zA_vret dX12_lead_168 rfl ?_
            rw [hn1]
            exact ⟨rfl, rfl, ldI_end (by omega) (by omega) hok hL hF (by rw [show (12 : Int) = k by omega]; exact hI)⟩
          · skip
            refine zA_iload_n dX12_lead_73 rfl ?_
            refine zA_iload dX12_lead_74 rfl ?_
            refine zA_ishr dX12_lead_76 ?_
            refine zA_iconst dX12_lead_77 ?_
            refine zA_iand dX12_lead_78 ?_
            refine zA_valI (if tb S k = true then 1 else 0) (tb_get s0 (by omega) k0 (by omega)) ?_
            refine zA_if_ne (tgt := 85) dX12_lead_79 (by decide) (inR_ite _) (fun c79 => ?_) (fun c79 => ?_)
            · skip
              replace c79 := zite_ne c79
              have hwk := hok.1 k k0 (by omega)
              have e109 : w1 109 k = w 109 k := hF.1 109 k (by decide) (by decide) (Or.inl (by decide))
              have e110 : w1 110 k = w 110 k := hF.1 110 k (by decide) (by decide) (Or.inl (by decide))
              have hwy := oWay_b hok (L := L) hL k0 (show k < 12 by omega)
              have hrm := tb_rmv s0 s1 k0 (show k < 12 by omega)
              have hpr := popN_rmv (p := tb S) k0 (show k < 12 by omega) c79
              refine zA_iload_n dX12_lead_85 rfl ?_
              refine zA_aload_n dX12_lead_86 rfl ?_
              refine zA_getR (n := 110) dX12_lead_87 fX12_139 c73 rfl ?_
              refine zA_iload dX12_lead_90 rfl ?_
              refine zA_iaload dX12_lead_92 c110 (by first | assumption | omega) (by first | assumption | omega) (by decide) ?_
              refine zA_iadd dX12_lead_93 ?_
              refine zA_iload_n dX12_lead_94 rfl ?_
              refine zA_if_ne (tgt := 102) dX12_lead_95 (by decide) (by first | assumption | exact hr _ _ | exact inR_mk (by omega) (by omega)) (fun c95 => ?_) (fun c95 => ?_)
              · skip
                have hL0 := hL2 c95
                have e112 : w1 112 (m - 1) = L := by rw [hF.2 _ (by omega), hLd, if_neg c95]
                refine zA_aload_n dX12_lead_102 rfl ?_
                refine zA_getR (n := 82) dX12_lead_103 fX12_45 c73 rfl ?_
                refine zA_bipush dX12_lead_106 rfl ?_
                refine zA_aload_n dX12_lead_108 rfl ?_
                refine zA_getR (n := 112) dX12_lead_109 fX12_145 c73 rfl ?_
                refine zA_iload_n dX12_lead_112 rfl ?_
                refine zA_iconst dX12_lead_113 ?_
                refine zA_isub dX12_lead_114 ?_
                refine zA_iaload dX12_lead_115 c112 (by first | assumption | omega) (by first | assumption | omega) (by decide) ?_
                refine zA_imul dX12_lead_116 ?_
                refine zA_iload dX12_lead_117 rfl ?_
                refine zA_iadd dX12_lead_119 ?_
                refine zA_iaload dX12_lead_120 c82 (by first | assumption | omega) (by first | assumption | omega) (by decide) ?_
                refine zA_valI (oWay (mTr w) L k) (by unfold oWay; first | (rw [hLd, if_pos c95, if_pos rfl]) | (rw [if_neg (by omega)]; unfold mTr; rw [e112, hF.1 82 _ (by decide) (by decide) (Or.inl (by decide))])) ?_
                refine zA_iadd dX12_lead_121 ?_
                refine zA_istore (lo1 := [zR 73, zI S, zI m, zI T, zI K, zI k, zI ((T + (w1 110 k)) + (oWay (mTr w) L k))]) dX12_lead_122 (by decide) rfl rfl ?_
                refine zA_aload_n dX12_lead_124 rfl ?_
                refine zA_getR (n := 112) dX12_lead_125 fX12_145 c73 rfl ?_
                refine zA_iload_n dX12_lead_128 rfl ?_
                refine zA_iload dX12_lead_129 rfl ?_
                refine zA_iastore dX12_lead_131 (by first | assumption | exact hr _ _ | exact inR_mk (by omega) (by omega)) c112 (by first | assumption | omega) (by first | assumption | omega) (by decide) ?_
                refine zA_namew (fun w_1 hw_1 => ?_)
                refine zA_range (fun hr => ?_)
                replace hw_1 : w_1 = up w1 112 m k := hw_1
                have hKb : 0 ≤ K + w1 109 k * (T + w1 110 k + oWay (mTr w) L k) ∧ K + w1 109 k * (T + w1 110 k + oWay (mTr w) L k) ≤ (m + 1) * 1000000 := by
                  have := zmulB (x := w1 109 k) (y := T + w1 110 k + oWay (mTr w) L k) (A := 999) (B := 972) (by omega) (by omega) (by omega) (by omega)
                  omega
                rw [hw_1]
                refine zA_aload_n dX12_lead_132 rfl ?_
                refine zA_iload_n dX12_lead_133 rfl ?_
                refine zA_iconst dX12_lead_134 ?_
                refine zA_iload dX12_lead_135 rfl ?_
                refine zA_ishl dX12_lead_137 ?_
                refine zA_iconst dX12_lead_138 ?_
                refine zA_ixor dX12_lead_139 ?_
                refine zA_iand dX12_lead_140 ?_
                refine zA_iload_n dX12_lead_141 rfl ?_
                refine zA_iconst dX12_lead_142 ?_
                refine zA_iadd dX12_lead_143 ?_
                refine zA_iload dX12_lead_144 rfl ?_
                refine zA_iload dX12_lead_146 rfl ?_
                refine zA_aload_n dX12_lead_148 rfl ?_
                refine zA_getR (n := 109) dX12_lead_149 fX12_136 c73 rfl ?_
                refine zA_iload dX12_lead_152 rfl ?_
                refine zA_iaload dX12_lead_154 c109 (by first | assumption | omega) (by first | assumption | omega) (by decide) ?_
                refine zA_iload dX12_lead_155 rfl ?_
                refine zA_imul dX12_lead_157 ?_
                refine zA_iadd dX12_lead_158 ?_
                refine zA_cV (st := []) dX12_lead_159 vX12_lead kX12_479 (IH n1 (by omega) (up w1 112 m k) (iAnd S (iXor (iShl 1 k) (-1))) (m + 1) (T + w1 110 k + oWay (mTr w) L k) (K + w1 109 k * (T + w1 110 k + oWay (mTr w) L k)) k hrm.1.1 hrm.1.2 (by rw [popN_c hrm.2]; omega) (by omega) (by omega) (by omega) (by omega) hKb.1 hKb.2 (by rw [if_neg (by omega), show m + 1 - 1 = m by omega, up_same]) (Or.inr ⟨k0, by omega⟩) (fun _ => k0) (by obtain ⟨r1, r2, r3⟩ := ldF_rows (ldF_up hF k); rw [r1, r2, r3]; exact hok) (by rw [up_cell _ _ _ _ (by decide)]; exact hB1)) (by omega) c73 rfl rfl (Nat.le_of_ble_eq_true rfl) rfl (fun q_2_v q_2_S q_2_w q_2 => ?_)
                obtain ⟨rfl, rfl, hq⟩ := q_2
                rw [e110, e109] at hq
                have hI2 := ldI_step (T' := T + w 110 k + oWay (mTr w) L k) k0 (by omega) (by omega) m0 (by omega) hok hL c79 hrm.2 rfl rfl (by omega) hF hI hq
                have hB2 : -1 ≤ q_2_w 73 72 := by
                  rcases hI2 with ⟨a, -⟩ | ⟨c0, a, b, -, e, -⟩
                  · omega
                  · have := (oF_b hok (n := n1) (p := tb S) (L := L) (by omega) (by omega) hL a.1 (by omega) b).1
                    omega
                refine zA_range (fun hr => ?_)
                show zA l mX12_lead false (n + 3) 0 0 (fun v' S' w' => v' = none ∧ S' = (ZZ t dr tx) ∧ ldQ w n (tb S) L T K m w') zNo 162 [zR 73, zI S, zI m, zI T, zI K, zI k, zI ((T + (w1 110 k)) + (oWay (mTr w) L k))] [] (ZZ t dr tx) q_2_w
                refine zA_iinc (lo1 := [zR 73, zI S, zI m, zI T, zI K, zI (k + 1), zI ((T + (w1 110 k)) + (oWay (mTr w) L k))]) dX12_lead_162 rfl (by decide) rfl rfl ?_
                refine zA_goto (tgt := 66) dX12_lead_165 (by decide) ?_
                refine zA_drop 6 (lo1 := [zR 73, zI S, zI m, zI T, zI K, zI (k + 1), .null]) rfl ?_
                exact ih66 (k + 1) _ (by omega) (by omega) (ldF_tr (ldF_up hF k) hq.1 (by omega)) hI2 hB2 (by omega)
              · skip
                refine zA_iconst dX12_lead_98 ?_
                refine zA_goto (tgt := 121) dX12_lead_99 (by decide) ?_
                refine zA_valI (oWay (mTr w) L k) (by unfold oWay; first | (rw [hLd, if_pos c95, if_pos rfl]) | (rw [if_neg (by omega)]; unfold mTr; rw [e112, hF.1 82 _ (by decide) (by decide) (Or.inl (by decide))])) ?_
                refine zA_iadd dX12_lead_121 ?_
                refine zA_istore (lo1 := [zR 73, zI S, zI m, zI T, zI K, zI k, zI ((T + (w1 110 k)) + (oWay (mTr w) L k))]) dX12_lead_122 (by decide) rfl rfl ?_
                refine zA_aload_n dX12_lead_124 rfl ?_
                refine zA_getR (n := 112) dX12_lead_125 fX12_145 c73 rfl ?_
                refine zA_iload_n dX12_lead_128 rfl ?_
                refine zA_iload dX12_lead_129 rfl ?_
                refine zA_iastore dX12_lead_131 (by first | assumption | exact hr _ _ | exact inR_mk (by omega) (by omega)) c112 (by first | assumption | omega) (by first | assumption | omega) (by decide) ?_
                refine zA_namew (fun w_3 hw_3 => ?_)
                refine zA_range (fun hr => ?_)
                replace hw_3 : w_3 = up w1 112 m k := hw_3
                have hKb : 0 ≤ K + w1 109 k * (T + w1 110 k + oWay (mTr w) L k) ∧ K + w1 109 k * (T + w1 110 k + oWay (mTr w) L k) ≤ (m + 1) * 1000000 := by
                  have := zmulB (x := w1 109 k) (y := T + w1 110 k + oWay (mTr w) L k) (A := 999) (B := 972) (by omega) (by omega) (by omega) (by omega)
                  omega
                rw [hw_3]
                refine zA_aload_n dX12_lead_132 rfl ?_
                refine zA_iload_n dX12_lead_133 rfl ?_
                refine zA_iconst dX12_lead_134 ?_
                refine zA_iload dX12_lead_135 rfl ?_
                refine zA_ishl dX12_lead_137 ?_
                refine zA_iconst dX12_lead_138 ?_
                refine zA_ixor dX12_lead_139 ?_
                refine zA_iand dX12_lead_140 ?_
                refine zA_iload_n dX12_lead_141 rfl ?_
                refine zA_iconst dX12_lead_142 ?_
                refine zA_iadd dX12_lead_143 ?_
                refine zA_iload dX12_lead_144 rfl ?_
                refine zA_iload dX12_lead_146 rfl ?_
                refine zA_aload_n dX12_lead_148 rfl ?_
                refine zA_getR (n := 109) dX12_lead_149 fX12_136 c73 rfl ?_
                refine zA_iload dX12_lead_152 rfl ?_
                refine zA_iaload dX12_lead_154 c109 (by first | assumption | omega) (by first | assumption | omega) (by decide) ?_
                refine zA_iload dX12_lead_155 rfl ?_
                refine zA_imul dX12_lead_157 ?_
                refine zA_iadd dX12_lead_158 ?_
                refine zA_cV (st := []) dX12_lead_159 vX12_lead kX12_479 (IH n1 (by omega) (up w1 112 m k) (iAnd S (iXor (iShl 1 k) (-1))) (m + 1) (T + w1 110 k + oWay (mTr w) L k) (K + w1 109 k * (T + w1 110 k + oWay (mTr w) L k)) k hrm.1.1 hrm.1.2 (by rw [popN_c hrm.2]; omega) (by omega) (by omega) (by omega) (by omega) hKb.1 hKb.2 (by rw [if_neg (by omega), show m + 1 - 1 = m by omega, up_same]) (Or.inr ⟨k0, by omega⟩) (fun _ => k0) (by obtain ⟨r1, r2, r3⟩ := ldF_rows (ldF_up hF k); rw [r1, r2, r3]; exact hok) (by rw [up_cell _ _ _ _ (by decide)]; exact hB1)) (by omega) c73 rfl rfl (Nat.le_of_ble_eq_true rfl) rfl (fun q_4_v q_4_S q_4_w q_4 => ?_)
                obtain ⟨rfl, rfl, hq⟩ := q_4
                rw [e110, e109] at hq
                have hI2 := ldI_step (T' := T + w 110 k + oWay (mTr w) L k) k0 (by omega) (by omega) m0 (by omega) hok hL c79 hrm.2 rfl rfl (by omega) hF hI hq
                have hB2 : -1 ≤ q_4_w 73 72 := by
                  rcases hI2 with ⟨a, -⟩ | ⟨c0, a, b, -, e, -⟩
                  · omega
                  · have := (oF_b hok (n := n1) (p := tb S) (L := L) (by omega) (by omega) hL a.1 (by omega) b).1
                    omega
                refine zA_range (fun hr => ?_)
                show zA l mX12_lead false (n + 3) 0 0 (fun v' S' w' => v' = none ∧ S' = (ZZ t dr tx) ∧ ldQ w n (tb S) L T K m w') zNo 162 [zR 73, zI S, zI m, zI T, zI K, zI k, zI ((T + (w1 110 k)) + (oWay (mTr w) L k))] [] (ZZ t dr tx) q_4_w
                refine zA_iinc (lo1 := [zR 73, zI S, zI m, zI T, zI K, zI (k + 1), zI ((T + (w1 110 k)) + (oWay (mTr w) L k))]) dX12_lead_162 rfl (by decide) rfl rfl ?_
                refine zA_goto (tgt := 66) dX12_lead_165 (by decide) ?_
                refine zA_drop 6 (lo1 := [zR 73, zI S, zI m, zI T, zI K, zI (k + 1), .null]) rfl ?_
                exact ih66 (k + 1) _ (by omega) (by omega) (ldF_tr (ldF_up hF k) hq.1 (by omega)) hI2 hB2 (by omega)
            · skip
              replace c79 := zite_eq c79
              refine zA_goto (tgt := 162) dX12_lead_82 (by decide) ?_
              refine zA_iinc (lo1 := [zR 73, zI S, zI m, zI T, zI K, zI (k + 1), .null]) dX12_lead_162 rfl (by decide) rfl rfl ?_
              refine zA_goto (tgt := 66) dX12_lead_165 (by decide) ?_
              exact ih66 (k + 1) _ (by omega) (by omega) hF (ldI_skip hI (by simpa using c79)) hB1 (by omega)
      exact L66 _ 0 w (by omega) (by omega) ldF_rfl (Or.inl ⟨rfl, rfl, fun _ => rfl, fun c a b => by omega⟩) hB (Nat.lt_succ_self _)
    · skip
      have hS0 : S = 0 := by assumption
      have hn0 : n = 0 := by
        have : popN (tb S) = 0 := by rw [hS0]; exact zsum0 12 (fun k _ => by rw [tb_0]; rfl)
        omega
      refine zA_aload_n dX12_lead_22 rfl ?_
      refine zA_iload dX12_lead_23 rfl ?_
      refine zA_putI dX12_lead_25 fX12_476 c73 rfl (by first | assumption | exact hr _ _ | exact inR_mk (by omega) (by omega)) ⟨rfl, rfl⟩ ?_
      refine zA_namew (fun w_5 hw_5 => ?_)
      refine zA_range (fun hr => ?_)
      replace hw_5 : w_5 = up w 73 72 K := hw_5
      refine zA_aload_n dX12_lead_28 rfl ?_
      refine zA_iload_n dX12_lead_29 rfl ?_
      refine zA_putI dX12_lead_30 fX12_302 c73 rfl (by first | assumption | exact hr _ _ | exact inR_mk (by omega) (by omega)) ⟨rfl, rfl⟩ ?_
      refine zA_namew (fun w_6 hw_6 => ?_)
      refine zA_range (fun hr => ?_)
      replace hw_6 : w_6 = up w_5 73 71 m := hw_6
      refine zA_iconst dX12_lead_33 ?_
      refine zA_istore (lo1 := [zR 73, zI S, zI m, zI T, zI K, zI 0, .null]) dX12_lead_34 (by decide) rfl rfl ?_
      have L36 : ∀ (z36 : Nat) (i : Int) (w1 : zW) (i0 : 0 ≤ i) (i1 : i ≤ m) (e72 : w1 73 72 = K) (e71 : w1 73 71 = m) (hf : ∀ c i, c ≠ 111 → (c ≠ 73 ∨ (i ≠ 71 ∧ i ≠ 72)) → w1 c i = w c i) (hr2 : ∀ j, 0 ≤ j → j < i → w1 111 j = w 112 j) (zm : (m - i).toNat < z36), zA l mX12_lead false (n + 3) 0 0 (fun v' S' w' => v' = none ∧ S' = (ZZ t dr tx) ∧ ldQ w n (tb S) L T K m w') zNo 36 [zR 73, zI S, zI m, zI T, zI K, zI i, .null] [] (ZZ t dr tx) w1 := by
        intro z36
        induction z36 with
        | zero => intro i w1 i0 i1 e72 e71 hf hr2 zm; exact absurd zm (Nat.not_lt_zero _)
        | succ z36 ih36 =>
          intro i w1 i0 i1 e72 e71 hf hr2 zm
          refine zA_range (fun hr => ?_)
          refine zA_iload dX12_lead_36 rfl ?_
          refine zA_iload_n dX12_lead_38 rfl ?_
          refine zA_icmp_ge (tgt := 62) dX12_lead_39 (by decide) (by first | assumption | exact hr _ _ | exact inR_mk (by omega) (by omega)) (by first | assumption | exact hr _ _ | exact inR_mk (by omega) (by omega)) (fun c39 => ?_) (fun c39 => ?_)
          · skip
            refine zA_vret dX12_lead_62 rfl ?_
            subst hn0
            refine ⟨rfl, rfl, ⟨fun c i a b e => hf c i a e, fun i hi => hf 112 i (by decide) (Or.inl (by decide))⟩, Or.inr ⟨?_, ?_, by rw [e71]; omega, fun j a b => ?_⟩⟩
            · have : ldW w 0 (tb S) L T K = K := by unfold ldW; rw [show oR (w 109) (tb S) = 0 from zsum0 12 (fun k _ => by rw [hS0, tb_0]; rfl)]; simp [oC]
              omega
            · have : ldW w 0 (tb S) L T K = K := by unfold ldW; rw [show oR (w 109) (tb S) = 0 from zsum0 12 (fun k _ => by rw [hS0, tb_0]; rfl)]; simp [oC]
              omega
            · rw [if_pos (by omega)]; exact hr2 j a (by omega)
          · skip
            refine zA_aload_n dX12_lead_42 rfl ?_
            refine zA_getR (n := 111) dX12_lead_43 fX12_142 c73 rfl ?_
            refine zA_iload dX12_lead_46 rfl ?_
            refine zA_aload_n dX12_lead_48 rfl ?_
            refine zA_getR (n := 112) dX12_lead_49 fX12_145 c73 rfl ?_
            refine zA_iload dX12_lead_52 rfl ?_
            refine zA_iaload dX12_lead_54 c112 (by first | assumption | omega) (by first | assumption | omega) (by decide) ?_
            refine zA_iastore dX12_lead_55 (by first | assumption | exact hr _ _ | exact inR_mk (by omega) (by omega)) c111 (by first | assumption | omega) (by first | assumption | omega) (by decide) ?_
            refine zA_namew (fun w_7 hw_7 => ?_)
            refine zA_range (fun hr => ?_)
            replace hw_7 : w_7 = up w1 111 i (w1 112 i) := hw_7
            refine zA_iinc (lo1 := [zR 73, zI S, zI m, zI T, zI K, zI (i + 1), .null]) dX12_lead_56 rfl (by decide) rfl rfl ?_
            refine zA_goto (tgt := 36) dX12_lead_59 (by decide) ?_
            exact ih36 (i + 1) w_7 (by omega) (by omega) (by rw [hw_7, up_cell _ _ _ _ (by decide)]; exact e72) (by rw [hw_7, up_cell _ _ _ _ (by decide)]; exact e71) (fun c i h k => by rw [hw_7, up_cell _ _ _ _ h]; exact hf c i h k) (fun j a b => by
                        rw [hw_7]
                        by_cases hj : j = i
                        · subst hj; rw [up_same]; exact hf 112 _ (by decide) (Or.inl (by decide))
                        · rw [up_idx _ _ _ _ hj]; exact hr2 j a (by omega)) (by omega)
      exact L36 _ 0 w_6 (by omega) (by omega) (by rw [hw_6, up_idx _ _ _ _ (by decide), hw_5, up_same]) (by rw [hw_6, up_same]) (fun c i h k => by
                  by_cases hc : c = 73
                  · subst hc; rw [hw_6, up_idx _ _ _ _ (by omega), hw_5, up_idx _ _ _ _ (by omega)]
                  · rw [hw_6, up_cell _ _ _ _ hc, hw_5, up_cell _ _ _ _ hc]) (fun j a b => by omega) (Nat.lt_succ_self _)
  · skip
    refine zA_iload dX12_lead_8 rfl ?_
    refine zA_aload_n dX12_lead_10 rfl ?_
    refine zA_getI dX12_lead_11 fX12_476 c73 rfl ?_
    refine zA_valI (w 73 72) rfl ?_
    refine zA_icmp_lt (tgt := 18) dX12_lead_14 (by decide) (by first | assumption | exact hr _ _ | exact inR_mk (by omega) (by omega)) (by first | assumption | exact hr _ _ | exact inR_mk (by omega) (by omega)) (fun c14 => ?_) (fun c14 => ?_)
    · skip
      refine zA_iload_n dX12_lead_18 rfl ?_
      refine zA_if_ne (tgt := 63) dX12_lead_19 (by decide) (by first | assumption | exact hr _ _ | exact inR_mk (by omega) (by omega)) (fun c19 => ?_) (fun c19 => ?_)
      · skip
        have hpp := popN_tb s0 s1 (by omega)
        obtain ⟨n1, hn1⟩ : ∃ n1 : Nat, n = n1 + 1 := ⟨n - 1, by omega⟩
        refine zA_iconst dX12_lead_63 ?_
        refine zA_istore (lo1 := [zR 73, zI S, zI m, zI T, zI K, zI 0, .null]) dX12_lead_64 (by decide) rfl rfl ?_
        have L66 : ∀ (z66 : Nat) (k : Int) (w1 : zW) (k0 : 0 ≤ k) (k1 : k ≤ 12) (hF : ldF m w w1) (hI : ldI w n1 (tb S) L T K m k w1) (hB1 : -1 ≤ w1 73 72) (zm : (12 - k).toNat < z66), zA l mX12_lead false (n + 3) 0 0 (fun v' S' w' => v' = none ∧ S' = (ZZ t dr tx) ∧ ldQ w n (tb S) L T K m w') zNo 66 [zR 73, zI S, zI m, zI T, zI K, zI k, .null] [] (ZZ t dr tx) w1 := by
          intro z66
          induction z66 with
          | zero => intro k w1 k0 k1 hF hI hB1 zm; exact absurd zm (Nat.not_lt_zero _)
          | succ z66 ih66 =>
            intro k w1 k0 k1 hF hI hB1 zm
            refine zA_range (fun hr => ?_)
            refine zA_iload dX12_lead_66 rfl ?_
            refine zA_bipush dX12_lead_68 rfl ?_
            refine zA_icmp_ge (tgt := 168) dX12_lead_70 (by decide) (by first | assumption | exact hr _ _ | exact inR_mk (by omega) (by omega)) ⟨by decide, by decide⟩ (fun c70 => ?_) (fun c70 => ?_)
            · skip
              refine zA_vret dX12_lead_168 rfl ?_
              rw [hn1]
              exact ⟨rfl, rfl, ldI_end (by omega) (by omega) hok hL hF (by rw [show (12 : Int) = k by omega]; exact hI)⟩
            · skip
              refine zA_iload_n dX12_lead_73 rfl ?_
              refine zA_iload dX12_lead_74 rfl ?_
              refine zA_ishr dX12_lead_76 ?_
              refine zA_iconst dX12_lead_77 ?_
              refine zA_iand dX12_lead_78 ?_
              refine zA_valI (if tb S k = true then 1 else 0) (tb_get s0 (by omega) k0 (by omega)) ?_
              refine zA_if_ne (tgt := 85) dX12_lead_79 (by decide) (inR_ite _) (fun c79 => ?_) (fun c79 => ?_)
              · skip
                replace c79 := zite_ne c79
                have hwk := hok.1 k k0 (by omega)
                have e109 : w1 109 k = w 109 k := hF.1 109 k (by decide) (by decide) (Or.inl (by decide))
                have e110 : w1 110 k = w 110 k := hF.1 110 k (by decide) (by decide) (Or.inl (by decide))
                have hwy := oWay_b hok (L := L) hL k0 (show k < 12 by omega)
                have hrm := tb_rmv s0 s1 k0 (show k < 12 by omega)
                have hpr := popN_rmv (p := tb S) k0 (show k < 12 by omega) c79
                refine zA_iload_n dX12_lead_85 rfl ?_
                refine zA_aload_n dX12_lead_86 rfl ?_
                refine zA_getR (n := 110) dX12_lead_87 fX12_139 c73 rfl ?_
                refine zA_iload dX12_lead_90 rfl ?_
                refine zA_iaload dX12_lead_92 c110 (by first | assumption | omega) (by first | assumption | omega) (by decide) ?_
                refine zA_iadd dX12_lead_93 ?_
                refine zA_iload_n dX12_lead_94 rfl ?_
                refine zA_if_ne (tgt := 102) dX12_lead_95 (by decide) (by first | assumption | exact hr _ _ | exact inR_mk (by omega) (by omega)) (fun c95 => ?_) (fun c95 => ?_)
                · skip
                  have hL0 := hL2 c95
                  have e112 : w1 112 (m - 1) = L := by rw [hF.2 _ (by omega), hLd, if_neg c95]
                  refine zA_aload_n dX12_lead_102 rfl ?_
                  refine zA_getR (n := 82) dX12_lead_103 fX12_45 c73 rfl ?_
                  refine zA_bipush dX12_lead_106 rfl ?_
                  refine zA_aload_n dX12_lead_108 rfl ?_
                  refine zA_getR (n := 112) dX12_lead_109 fX12_145 c73 rfl ?_
                  refine zA_iload_n dX12_lead_112 rfl ?_
                  refine zA_iconst dX12_lead_113 ?_
                  refine zA_isub dX12_lead_114 ?_
                  refine zA_iaload dX12_lead_115 c112 (by first | assumption | omega) (by first | assumption | omega) (by decide) ?_
                  refine zA_imul dX12_lead_116 ?_
                  refine zA_iload dX12_lead_117 rfl ?_
                  refine zA_iadd dX12_lead_119 ?_
                  refine zA_iaload dX12_lead_120 c82 (by first | assumption | omega) (by first | assumption | omega) (by decide) ?_
                  refine zA_valI (oWay (mTr w) L k) (by unfold oWay; first | (rw [hLd, if_pos c95, if_pos rfl]) | (rw [if_neg (by omega)]; unfold mTr; rw [e112, hF.1 82 _ (by decide) (by decide) (Or.inl (by decide))])) ?_
                  refine zA_iadd dX12_lead_121 ?_
                  refine zA_istore (lo1 := [zR 73, zI S, zI m, zI T, zI K, zI k, zI ((T + (w1 110 k)) + (oWay (mTr w) L k))]) dX12_lead_122 (by decide) rfl rfl ?_
                  refine zA_aload_n dX12_lead_124 rfl ?_
                  refine zA_getR (n := 112) dX12_lead_125 fX12_145 c73 rfl ?_
                  refine zA_iload_n dX12_lead_128 rfl ?_
                  refine zA_iload dX12_lead_129 rfl ?_
                  refine zA_iastore dX12_lead_131 (by first | assumption | exact hr _ _ | exact inR_mk (by omega) (by omega)) c112 (by first | assumption | omega) (by first | assumption | omega) (by decide) ?_
                  refine zA_namew (fun w_8 hw_8 => ?_)
                  refine zA_range (fun hr => ?_)
                  replace hw_8 : w_8 = up w1 112 m k := hw_8
                  have hKb : 0 ≤ K + w1 109 k * (T + w1 110 k + oWay (mTr w) L k) ∧ K + w1 109 k * (T + w1 110 k + oWay (mTr w) L k) ≤ (m + 1) * 1000000 := by
                    have := zmulB (x := w1 109 k) (y := T + w1 110 k + oWay (mTr w) L k) (A := 999) (B := 972) (by omega) (by omega) (by omega) (by omega)
                    omega
                  rw [hw_8]
                  refine zA_aload_n dX12_lead_132 rfl ?_
                  refine zA_iload_n dX12_lead_133 rfl ?_
                  refine zA_iconst dX12_lead_134 ?_
                  refine zA_iload dX12_lead_135 rfl ?_
                  refine zA_ishl dX12_lead_137 ?_
                  refine zA_iconst dX12_lead_138 ?_
                  refine zA_ixor dX12_lead_139 ?_
                  refine zA_iand dX12_lead_140 ?_
                  refine zA_iload_n dX12_lead_141 rfl ?_
                  refine zA_iconst dX12_lead_142 ?_
                  refine zA_iadd dX12_lead_143 ?_
                  refine zA_iload dX12_lead_144 rfl ?_
                  refine zA_iload dX12_lead_146 rfl ?_
                  refine zA_aload_n dX12_lead_148 rfl ?_
                  refine zA_getR (n := 109) dX12_lead_149 fX12_136 c73 rfl ?_
                  refine zA_iload dX12_lead_152 rfl ?_
                  refine zA_iaload dX12_lead_154 c109 (by first | assumption | omega) (by first | assumption | omega) (by decide) ?_
                  refine zA_iload dX12_lead_155 rfl ?_
                  refine zA_imul dX12_lead_157 ?_
                  refine zA_iadd dX12_lead_158 ?_
                  refine zA_cV (st := []) dX12_lead_159 vX12_lead kX12_479 (IH n1 (by omega) (up w1 112 m k) (iAnd S (iXor (iShl 1 k) (-1))) (m + 1) (T + w1 110 k + oWay (mTr w) L k) (K + w1 109 k * (T + w1 110 k + oWay (mTr w) L k)) k hrm.1.1 hrm.1.2 (by rw [popN_c hrm.2]; omega) (by omega) (by omega) (by omega) (by omega) hKb.1 hKb.2 (by rw [if_neg (by omega), show m + 1 - 1 = m by omega, up_same]) (Or.inr ⟨k0, by omega⟩) (fun _ => k0) (by obtain ⟨r1, r2, r3⟩ := ldF_rows (ldF_up hF k); rw [r1, r2, r3]; exact hok) (by rw [up_cell _ _ _ _ (by decide)]; exact hB1)) (by omega) c73 rfl rfl (Nat.le_of_ble_eq_true rfl) rfl (fun q_9_v q_9_S q_9_w q_9 => ?_)
                  obtain ⟨rfl, rfl, hq⟩ := q_9
                  rw [e110, e109] at hq
                  have hI2 := ldI_step (T' := T + w 110 k + oWay (mTr w) L k) k0 (by omega) (by omega) m0 (by omega) hok hL c79 hrm.2 rfl rfl (by omega) hF hI hq
                  have hB2 : -1 ≤ q_9_w 73 72 := by
                    rcases hI2 with ⟨a, -⟩ | ⟨c0, a, b, -, e, -⟩
                    · omega
                    · have := (oF_b hok (n := n1) (p := tb S) (L := L) (by omega) (by omega) hL a.1 (by omega) b).1
                      omega
                  refine zA_range (fun hr => ?_)
                  show zA l mX12_lead false (n + 3) 0 0 (fun v' S' w' => v' = none ∧ S' = (ZZ t dr tx) ∧ ldQ w n (tb S) L T K m w') zNo 162 [zR 73, zI S, zI m, zI T, zI K, zI k, zI ((T + (w1 110 k)) + (oWay (mTr w) L k))] [] (ZZ t dr tx) q_9_w
                  refine zA_iinc (lo1 := [zR 73, zI S, zI m, zI T, zI K, zI (k + 1), zI ((T + (w1 110 k)) + (oWay (mTr w) L k))]) dX12_lead_162 rfl (by decide) rfl rfl ?_
                  refine zA_goto (tgt := 66) dX12_lead_165 (by decide) ?_
                  refine zA_drop 6 (lo1 := [zR 73, zI S, zI m, zI T, zI K, zI (k + 1), .null]) rfl ?_
                  exact ih66 (k + 1) _ (by omega) (by omega) (ldF_tr (ldF_up hF k) hq.1 (by omega)) hI2 hB2 (by omega)
                · skip
                  refine zA_iconst dX12_lead_98 ?_
                  refine zA_goto (tgt := 121) dX12_lead_99 (by decide) ?_
                  refine zA_valI (oWay (mTr w) L k) (by unfold oWay; first | (rw [hLd, if_pos c95, if_pos rfl]) | (rw [if_neg (by omega)]; unfold mTr; rw [e112, hF.1 82 _ (by decide) (by decide) (Or.inl (by decide))])) ?_
                  refine zA_iadd dX12_lead_121 ?_
                  refine zA_istore (lo1 := [zR 73, zI S, zI m, zI T, zI K, zI k, zI ((T + (w1 110 k)) + (oWay (mTr w) L k))]) dX12_lead_122 (by decide) rfl rfl ?_
                  refine zA_aload_n dX12_lead_124 rfl ?_
                  refine zA_getR (n := 112) dX12_lead_125 fX12_145 c73 rfl ?_
                  refine zA_iload_n dX12_lead_128 rfl ?_
                  refine zA_iload dX12_lead_129 rfl ?_
                  refine zA_iastore dX12_lead_131 (by first | assumption | exact hr _ _ | exact inR_mk (by omega) (by omega)) c112 (by first | assumption | omega) (by first | assumption | omega) (by decide) ?_
                  refine zA_namew (fun w_10 hw_10 => ?_)
                  refine zA_range (fun hr => ?_)
                  replace hw_10 : w_10 = up w1 112 m k := hw_10
                  have hKb : 0 ≤ K + w1 109 k * (T + w1 110 k + oWay (mTr w) L k) ∧ K + w1 109 k * (T + w1 110 k + oWay (mTr w) L k) ≤ (m + 1) * 1000000 := by
                    have := zmulB (x := w1 109 k) (y := T + w1 110 k + oWay (mTr w) L k) (A := 999) (B := 972) (by omega) (by omega) (by omega) (by omega)
                    omega
                  rw [hw_10]
                  refine zA_aload_n dX12_lead_132 rfl ?_
                  refine zA_iload_n dX12_lead_133 rfl ?_
                  refine zA_iconst dX12_lead_134 ?_
                  refine zA_iload dX12_lead_135 rfl ?_
                  refine zA_ishl dX12_lead_137 ?_
                  refine zA_iconst dX12_lead_138 ?_
                  refine zA_ixor dX12_lead_139 ?_
                  refine zA_iand dX12_lead_140 ?_
                  refine zA_iload_n dX12_lead_141 rfl ?_
                  refine zA_iconst dX12_lead_142 ?_
                  refine zA_iadd dX12_lead_143 ?_
                  refine zA_iload dX12_lead_144 rfl ?_
                  refine zA_iload dX12_lead_146 rfl ?_
                  refine zA_aload_n dX12_lead_148 rfl ?_
                  refine zA_getR (n := 109) dX12_lead_149 fX12_136 c73 rfl ?_
                  refine zA_iload dX12_lead_152 rfl ?_
                  refine zA_iaload dX12_lead_154 c109 (by first | assumption | omega) (by first | assumption | omega) (by decide) ?_
                  refine zA_iload dX12_lead_155 rfl ?_
                  refine zA_imul dX12_lead_157 ?_
                  refine zA_iadd dX12_lead_158 ?_
                  refine zA_cV (st := []) dX12_lead_159 vX12_lead kX12_479 (IH n1 (by omega) (up w1 112 m k) (iAnd S (iXor (iShl 1 k) (-1))) (m + 1) (T + w1 110 k + oWay (mTr w) L k) (K + w1 109 k * (T + w1 110 k + oWay (mTr w) L k)) k hrm.1.1 hrm.1.2 (by rw [popN_c hrm.2]; omega) (by omega) (by omega) (by omega) (by omega) hKb.1 hKb.2 (by rw [if_neg (by omega), show m + 1 - 1 = m by omega, up_same]) (Or.inr ⟨k0, by omega⟩) (fun _ => k0) (by obtain ⟨r1, r2, r3⟩ := ldF_rows (ldF_up hF k); rw [r1, r2, r3]; exact hok) (by rw [up_cell _ _ _ _ (by decide)]; exact hB1)) (by omega) c73 rfl rfl (Nat.le_of_ble_eq_true rfl) rfl (fun q_11_v q_11_S q_11_w q_11 => ?_)
                  obtain ⟨rfl, rfl, hq⟩ := q_11
                  rw [e110, e109] at hq
                  have hI2 := ldI_step (T' := T + w 110 k + oWay (mTr w) L k) k0 (by omega) (by omega) m0 (by omega) hok hL c79 hrm.2 rfl rfl (by omega) hF hI hq
                  have hB2 : -1 ≤ q_11_w 73 72 := by
                    rcases hI2 with ⟨a, -⟩ | ⟨c0, a, b, -, e, -⟩
                    · omega
                    · have := (oF_b hok (n := n1) (p := tb S) (L := L) (by omega) (by omega) hL a.1 (by omega) b).1
                      omega
                  refine zA_range (fun hr => ?_)
                  show zA l mX12_lead false (n + 3) 0 0 (fun v' S' w' => v' = none ∧ S' = (ZZ t dr tx) ∧ ldQ w n (tb S) L T K m w') zNo 162 [zR 73, zI S, zI m, zI T, zI K, zI k, zI ((T + (w1 110 k)) + (oWay (mTr w) L k))] [] (ZZ t dr tx) q_11_w
                  refine zA_iinc (lo1 := [zR 73, zI S, zI m, zI T, zI K, zI (k + 1), zI ((T + (w1 110 k)) + (oWay (mTr w) L k))]) dX12_lead_162 rfl (by decide) rfl rfl ?_
                  refine zA_goto (tgt := 66) dX12_lead_165 (by decide) ?_
                  refine zA_drop 6 (lo1 := [zR 73, zI S, zI m, zI T, zI K, zI (k + 1), .null]) rfl ?_
                  exact ih66 (k + 1) _ (by omega) (by omega) (ldF_tr (ldF_up hF k) hq.1 (by omega)) hI2 hB2 (by omega)
              · skip
                replace c79 := zite_eq c79
                refine zA_goto (tgt := 162) dX12_lead_82 (by decide) ?_
                refine zA_iinc (lo1 := [zR 73, zI S, zI m, zI T, zI K, zI (k + 1), .null]) dX12_lead_162 rfl (by decide) rfl rfl ?_
                refine zA_goto (tgt := 66) dX12_lead_165 (by decide) ?_
                exact ih66 (k + 1) _ (by omega) (by omega) hF (ldI_skip hI (by simpa using c79)) hB1 (by omega)
        exact L66 _ 0 w (by omega) (by omega) ldF_rfl (Or.inl ⟨rfl, rfl, fun _ => rfl, fun c a b => by omega⟩) hB (Nat.lt_succ_self _)
      · skip
        have hS0 : S = 0 := by assumption
        have hn0 : n = 0 := by
          have : popN (tb S) = 0 := by rw [hS0]; exact zsum0 12 (fun k _ => by rw [tb_0]; rfl)
          omega
        refine zA_aload_n dX12_lead_22 rfl ?_
        refine zA_iload dX12_lead_23 rfl ?_
        refine zA_putI dX12_lead_25 fX12_476 c73 rfl (by first | assumption | exact hr _ _ | exact inR_mk (by omega) (by omega)) ⟨rfl, rfl⟩ ?_
        refine zA_namew (fun w_12 hw_12 => ?_)
        refine zA_range (fun hr => ?_)
        replace hw_12 : w_12 = up w 73 72 K := hw_12
        refine zA_aload_n dX12_lead_28 rfl ?_
        refine zA_iload_n dX12_lead_29 rfl ?_
        refine zA_putI dX12_lead_30 fX12_302 c73 rfl (by first | assumption | exact hr _ _ | exact inR_mk (by omega) (by omega)) ⟨rfl, rfl⟩ ?_
        refine zA_namew (fun w_13 hw_13 => ?_)
        refine zA_range (fun hr => ?_)
        replace hw_13 : w_13 = up w_12 73 71 m := hw_13
        refine zA_iconst dX12_lead_33 ?_
        refine zA_istore (lo1 := [zR 73, zI S, zI m, zI T, zI K, zI 0, .null]) dX12_lead_34 (by decide) rfl rfl ?_
        have L36 : ∀ (z36 : Nat) (i : Int) (w1 : zW) (i0 : 0 ≤ i) (i1 : i ≤ m) (e72 : w1 73 72 = K) (e71 : w1 73 71 = m) (hf : ∀ c i, c ≠ 111 → (c ≠ 73 ∨ (i ≠ 71 ∧ i ≠ 72)) → w1 c i = w c i) (hr2 : ∀ j, 0 ≤ j → j < i → w1 111 j = w 112 j) (zm : (m - i).toNat < z36), zA l mX12_lead false (n + 3) 0 0 (fun v' S' w' => v' = none ∧ S' = (ZZ t dr tx) ∧ ldQ w n (tb S) L T K m w') zNo 36 [zR 73, zI S, zI m, zI T, zI K, zI i, .null] [] (ZZ t dr tx) w1 := by
          intro z36
          induction z36 with
          | zero => intro i w1 i0 i1 e72 e71 hf hr2 zm; exact absurd zm (Nat.not_lt_zero _)
          | succ z36 ih36 =>
            intro i w1 i0 i1 e72 e71 hf hr2 zm
            refine zA_range (fun hr => ?_)
            refine zA_iload dX12_lead_36 rfl ?_
            refine zA_iload_n dX12_lead_38 rfl ?_
            refine zA_icmp_ge (tgt := 62) dX12_lead_39 (by decide) (by first | assumption | exact hr _ _ | exact inR_mk (by omega) (by omega)) (by first | assumption | exact hr _ _ | exact inR_mk (by omega) (by omega)) (fun c39 => ?_) (fun c39 => ?_)
            · skip
              refine zA_vret dX12_lead_62 rfl ?_
              subst hn0
              refine ⟨rfl, rfl, ⟨fun c i a b e => hf c i a e, fun i hi => hf 112 i (by decide) (Or.inl (by decide))⟩, Or.inr ⟨?_, ?_, by rw [e71]; omega, fun j a b => ?_⟩⟩
              · have : ldW w 0 (tb S) L T K = K := by unfold ldW; rw [show oR (w 109) (tb S) = 0 from zsum0 12 (fun k _ => by rw [hS0, tb_0]; rfl)]; simp [oC]
                omega
              · have : ldW w 0 (tb S) L T K = K := by unfold ldW; rw [show oR (w 109) (tb S) = 0 from zsum0 12 (fun k _ => by rw [hS0, tb_0]; rfl)]; simp [oC]
                omega
              · rw [if_pos (by omega)]; exact hr2 j a (by omega)
            · skip
              refine zA_aload_n dX12_lead_42 rfl ?_
              refine zA_getR (n := 111) dX12_lead_43 fX12_142 c73 rfl ?_
              refine zA_iload dX12_lead_46 rfl ?_
              refine zA_aload_n dX12_lead_48 rfl ?_
              refine zA_getR (n := 112) dX12_lead_49 fX12_145 c73 rfl ?_
              refine zA_iload dX12_lead_52 rfl ?_
              refine zA_iaload dX12_lead_54 c112 (by first | assumption | omega) (by first | assumption | omega) (by decide) ?_
              refine zA_iastore dX12_lead_55 (by first | assumption | exact hr _ _ | exact inR_mk (by omega) (by omega)) c111 (by first | assumption | omega) (by first | assumption | omega) (by decide) ?_
              refine zA_namew (fun w_14 hw_14 => ?_)
              refine zA_range (fun hr => ?_)
              replace hw_14 : w_14 = up w1 111 i (w1 112 i) := hw_14
              refine zA_iinc (lo1 := [zR 73, zI S, zI m, zI T, zI K, zI (i + 1), .null]) dX12_lead_56 rfl (by decide) rfl rfl ?_
              refine zA_goto (tgt := 36) dX12_lead_59 (by decide) ?_
              exact ih36 (i + 1) w_14 (by omega) (by omega) (by rw [hw_14, up_cell _ _ _ _ (by decide)]; exact e72) (by rw [hw_14, up_cell _ _ _ _ (by decide)]; exact e71) (fun c i h k => by rw [hw_14, up_cell _ _ _ _ h]; exact hf c i h k) (fun j a b => by
                          rw [hw_14]
                          by_cases hj : j = i
                          · subst hj; rw [up_same]; exact hf 112 _ (by decide) (Or.inl (by decide))
                          · rw [up_idx _ _ _ _ hj]; exact hr2 j a (by omega)) (by omega)
        exact L36 _ 0 w_13 (by omega) (by omega) (by rw [hw_13, up_idx _ _ _ _ (by decide), hw_12, up_same]) (by rw [hw_13, up_same]) (fun c i h k => by
                    by_cases hc : c = 73
                    · subst hc; rw [hw_13, up_idx _ _ _ _ (by omega), hw_12, up_idx _ _ _ _ (by omega)]
                    · rw [hw_13, up_cell _ _ _ _ hc, hw_12, up_cell _ _ _ _ hc]) (fun j a b => by omega) (Nat.lt_succ_self _)
    · skip
      refine zA_vret dX12_lead_17 rfl ?_
      exact ⟨rfl, rfl, ldF_rfl, Or.inl ⟨by omega, by unfold ldW; omega, rfl, rfl, fun _ => rfl⟩⟩

theorem m_lead {l : Launch} {t dr tx : Nat} : ∀ (n : Nat) (w : zW) (S m T K L : Int) (s0 : 0 ≤ S) (s1 : S < 4096) (hpn : popN (tb S) = (n : Nat)) (m0 : 0 ≤ m) (mn : m + (n : Nat) ≤ 9) (T0 : 0 ≤ T) (T1 : T ≤ m * 108) (K0 : 0 ≤ K) (K1 : K ≤ m * 1000000) (hLd : L = if m = 0 then -1 else w 112 (m - 1)) (hL : L = -1 ∨ (0 ≤ L ∧ L < 12)) (hL2 : m ≠ 0 → 0 ≤ L) (hok : okO (w 109) (w 110) (mTr w)) (hB : -1 ≤ w 73 72), zSp l mX12_lead false (n + 3) 0 0 [zR 73, zI S, zI m, zI T, zI K] (ZZ t dr tx) w (fun v' S' w' => v' = none ∧ S' = (ZZ t dr tx) ∧ ldQ w n (tb S) L T K m w') zNo := by
  intro n
  induction n using Nat.strongRecOn with
  | _ n ih =>
    intro w S m T K L h1 h2 h3 h4 h5 h6 h7 h8 h9 h10 h11 h12 h13 h14
    exact m_lead_s (n := n) ih h1 h2 h3 h4 h5 h6 h7 h8 h9 h10 h11 h12 h13 h14
def okS (S n : Int) : Prop := 0 < S ∧ S.toNat / 2 ^ n.toNat = 0 ∧ popc S ≤ 9
theorem okS_lt {S n : Int} (h0 : 0 ≤ S) (hn : n ≤ 12) (h : S.toNat / 2 ^ n.toNat = 0) : S < 4096 := by
  have h1 : 0 < 2 ^ n.toNat := Nat.pow_pos (by decide)
  have h2 : S.toNat < 2 ^ n.toNat := (Nat.div_eq_zero_iff_lt h1).mp h
  have h3 : 2 ^ n.toNat ≤ 2 ^ 12 := Nat.pow_le_pow_right (by decide) (by omega)
  omega
theorem popN_popc {S : Int} (s1 : S < 4096) : popN (tb S) = popc S := by
  have e : popc S = popN (tb S) + (if tb S 12 = true then 1 else 0) + (if tb S 13 = true then 1 else 0) + (if tb S 14 = true then 1 else 0) + (if tb S 15 = true then 1 else 0) := rfl
  have h : ∀ j : Int, 12 ≤ j → tb S j = false := fun j hj => tb_hi (k := 12) (by rw [show (2 : Int) ^ 12 = 4096 by decide]; exact s1) hj
  rw [e, h 12 (by decide), h 13 (by decide), h 14 (by decide), h 15 (by decide)]
  simp
set_option maxRecDepth 100000 in
set_option maxHeartbeats 4000000 in
theorem m_order {l : Launch} {t dr tx : Nat} {w : zW} {S : Int} (hS : inR S) (hn0 : 0 ≤ w 75 0) (hn : w 75 0 ≤ 12) (hok : okO (w 109) (w 110) (mTr w)) : zSp l mX12_order false 14 0 0 [zR 73, zI S] (ZZ t dr tx) w (fun v' S' w' => S' = (ZZ t dr tx) ∧ ((¬ okS S (w 75 0) ∧ v' = some (zI (-1)) ∧ w' = up w 73 1 0) ∨ (okS S (w 75 0) ∧ ∃ n : Nat, popN (tb S) = n ∧ n ≤ 9 ∧ v' = some (zI (oC (w 109) (w 110) (mTr w) n (tb S) (-1))) ∧ (∀ c i, c ≠ 111 → c ≠ 112 → (c ≠ 73 ∨ (i ≠ 1 ∧ i ≠ 71 ∧ i ≠ 72)) → w' c i = w c i) ∧ w' 73 1 = 0 ∧ w' 73 71 = n ∧ ∀ i : Int, 0 ≤ i → i < n → w' 111 i = orow (w 109) (w 110) (mTr w) n (tb S) (-1) i))) zNo := by
  refine zA_intro ⟨plainFor_of_name (by decide +kernel), Or.inl (by decide +kernel)⟩ rfl (Nat.le_of_ble_eq_true rfl) ?_
  refine zA_range (fun hr => ?_)
  show zA l mX12_order false 14 0 0 (fun v' S' w' => S' = (ZZ t dr tx) ∧ ((¬ okS S (w 75 0) ∧ v' = some (zI (-1)) ∧ w' = up w 73 1 0) ∨ (okS S (w 75 0) ∧ ∃ n : Nat, popN (tb S) = n ∧ n ≤ 9 ∧ v' = some (zI (oC (w 109) (w 110) (mTr w) n (tb S) (-1))) ∧ (∀ c i, c ≠ 111 → c ≠ 112 → (c ≠ 73 ∨ (i ≠ 1 ∧ i ≠ 71 ∧ i ≠ 72)) → w' c i = w c i) ∧ w' 73 1 = 0 ∧ w' 73 71 = n ∧ ∀ i : Int, 0 ≤ i → i < n → w' 111 i = orow (w 109) (w 110) (mTr w) n (tb S) (-1) i))) zNo 0 [zR 73, zI S] [] (ZZ t dr tx) w
  refine zA_aload_n dX12_order_0 rfl ?_
  refine zA_iconst dX12_order_1 ?_
  refine zA_putI dX12_order_2 fX12_182 c73 rfl ⟨by decide, by decide⟩ ⟨rfl, rfl⟩ ?_
  refine zA_namew (fun w_1 hw_1 => ?_)
  refine zA_range (fun hr => ?_)
  replace hw_1 : w_1 = up w 73 1 0 := hw_1
  have ef : ∀ cc i, cc ≠ 73 → w_1 cc i = w cc i := fun cc i h => by rw [hw_1, up_cell _ _ _ _ h]
  have e75 : w_1 75 0 = w 75 0 := ef 75 0 (by decide)
  refine zA_iload_n dX12_order_5 rfl ?_
  refine zA_if_le (tgt := 29) dX12_order_6 (by decide) (by first | assumption | exact hr _ _ | exact inR_mk (by omega) (by omega)) (fun c6 => ?_) (fun c6 => ?_)
  · skip
    refine zA_iconst dX12_order_29 ?_
    refine zA_iret dX12_order_30 rfl ?_
    refine ⟨rfl, Or.inl ⟨fun h => ?_, rfl, hw_1⟩⟩
    obtain ⟨a, b, c⟩ := h
    rw [← e75] at b
    omega
  · skip
    refine zA_iload_n dX12_order_9 rfl ?_
    refine zA_aload_n dX12_order_10 rfl ?_
    refine zA_getR (n := 75) dX12_order_11 fX12_25 c73 rfl ?_
    refine zA_iconst dX12_order_14 ?_
    refine zA_iaload dX12_order_15 c75 (by first | assumption | omega) (by first | assumption | omega) (by decide) ?_
    refine zA_ishr dX12_order_16 ?_
    refine zA_valI ((S.toNat / 2 ^ (w_1 75 0).toNat : Nat) : Int) (iShr_d (by omega) (by have := hS.2; omega) (by omega) (by omega)) ?_
    have hS2 := hS.2
    have hdr : inR ((S.toNat / 2 ^ (w_1 75 0).toNat : Nat) : Int) := by
      have hx : ∀ x : Nat, x ≤ S.toNat → inR (x : Int) := fun x hx => inR_mk (by omega) (by omega)
      exact hx _ (Nat.div_le_self _ _)
    refine zA_if_ne (tgt := 29) dX12_order_17 (by decide) (by first | assumption | exact hr _ _ | exact inR_mk (by omega) (by omega)) (fun c17 => ?_) (fun c17 => ?_)
    · skip
      refine zA_iconst dX12_order_29 ?_
      refine zA_iret dX12_order_30 rfl ?_
      refine ⟨rfl, Or.inl ⟨fun h => ?_, rfl, hw_1⟩⟩
      obtain ⟨a, b, c⟩ := h
      rw [← e75] at b
      omega
    · skip
      have hdz : S.toNat / 2 ^ (w_1 75 0).toNat = 0 := by omega
      have hS4 := okS_lt (n := w_1 75 0) (S := S) (by omega) (by omega) hdz
      have hpb := popc_b S
      refine zA_iload_n dX12_order_20 rfl ?_
      refine zA_cS (st := []) dX12_order_21 sX12_bitsOf kX12_393 (m_bitsOf (w := w_1) (S := (ZZ t dr tx)) (s := S) (by omega) (by omega)) (by decide) rfl rfl (Nat.le_of_ble_eq_true rfl) (zRt_el ?_)
      show zA l mX12_order false 14 0 0 (fun v' S' w' => S' = (ZZ t dr tx) ∧ ((¬ okS S (w 75 0) ∧ v' = some (zI (-1)) ∧ w' = up w 73 1 0) ∨ (okS S (w 75 0) ∧ ∃ n : Nat, popN (tb S) = n ∧ n ≤ 9 ∧ v' = some (zI (oC (w 109) (w 110) (mTr w) n (tb S) (-1))) ∧ (∀ c i, c ≠ 111 → c ≠ 112 → (c ≠ 73 ∨ (i ≠ 1 ∧ i ≠ 71 ∧ i ≠ 72)) → w' c i = w c i) ∧ w' 73 1 = 0 ∧ w' 73 71 = n ∧ ∀ i : Int, 0 ≤ i → i < n → w' 111 i = orow (w 109) (w 110) (mTr w) n (tb S) (-1) i))) zNo 24 [zR 73, zI S] [zI (popc S)] (ZZ t dr tx) w_1
      refine zA_bipush dX12_order_24 rfl ?_
      refine zA_icmp_le (tgt := 31) dX12_order_26 (by decide) (by first | assumption | exact hr _ _ | exact inR_mk (by omega) (by omega)) ⟨by decide, by decide⟩ (fun c26 => ?_) (fun c26 => ?_)
      · skip
        refine zA_aload_n dX12_order_31 rfl ?_
        refine zA_iconst dX12_order_32 ?_
        refine zA_putI dX12_order_33 fX12_476 c73 rfl ⟨by decide, by decide⟩ ⟨rfl, rfl⟩ ?_
        refine zA_namew (fun w_2 hw_2 => ?_)
        refine zA_range (fun hr => ?_)
        replace hw_2 : w_2 = up w_1 73 72 (-1) := hw_2
        have ef2 : ∀ cc i, (cc ≠ 73 ∨ (i ≠ 1 ∧ i ≠ 72)) → w_2 cc i = w cc i := fun cc i h => by
          by_cases hc : cc = 73
          · subst hc; rw [hw_2, up_idx _ _ _ _ (by omega), hw_1, up_idx _ _ _ _ (by omega)]
          · rw [hw_2, up_cell _ _ _ _ hc, hw_1, up_cell _ _ _ _ hc]
        have e72 : w_2 73 72 = -1 := by rw [hw_2, up_same]
        have f1 : w_2 109 = w 109 := funext fun i => ef2 109 i (Or.inl (by decide))
        have f2 : w_2 110 = w 110 := funext fun i => ef2 110 i (Or.inl (by decide))
        have f3 : mTr w_2 = mTr w := funext fun a => funext fun b => ef2 82 _ (Or.inl (by decide))
        have hpp := popN_popc (S := S) (by omega)
        obtain ⟨n, hpn⟩ : ∃ n : Nat, popN (tb S) = n := ⟨(popc S).toNat, by have := popc_b S; omega⟩
        refine zA_aload_n dX12_order_36 rfl ?_
        refine zA_iload_n dX12_order_37 rfl ?_
        refine zA_iconst dX12_order_38 ?_
        refine zA_iconst dX12_order_39 ?_
        refine zA_iconst dX12_order_40 ?_
        refine zA_cV (st := []) dX12_order_41 vX12_lead kX12_479 (m_lead n w_2 S 0 0 0 (-1) (by omega) hS4 hpn (by decide) (by omega) (by decide) (by decide) (by decide) (by decide) rfl (Or.inl rfl) (fun h => absurd rfl h) (by rw [f1, f2, f3]; exact hok) (by omega)) (by omega) c73 rfl rfl (Nat.le_of_ble_eq_true rfl) rfl (fun q_3_v q_3_S q_3_w q_3 => ?_)
        obtain ⟨rfl, rfl, hq⟩ := q_3
        obtain ⟨⟨hq1, -⟩, hq2⟩ := hq
        have hq3 := hq2.resolve_left (fun h => h.1 e72)
        obtain ⟨-, hq4, hq5, hq6⟩ := hq3
        have hq7 : q_3_w 73 72 = oC (w 109) (w 110) (mTr w) n (tb S) (-1) := by rw [hq4]; unfold ldW; rw [f1, f2, f3]; omega
        refine zA_range (fun hr => ?_)
        show zA l mX12_order false 14 0 0 (fun v' S' w' => S' = (ZZ t dr tx) ∧ ((¬ okS S (w 75 0) ∧ v' = some (zI (-1)) ∧ w' = up w 73 1 0) ∨ (okS S (w 75 0) ∧ ∃ n : Nat, popN (tb S) = n ∧ n ≤ 9 ∧ v' = some (zI (oC (w 109) (w 110) (mTr w) n (tb S) (-1))) ∧ (∀ c i, c ≠ 111 → c ≠ 112 → (c ≠ 73 ∨ (i ≠ 1 ∧ i ≠ 71 ∧ i ≠ 72)) → w' c i = w c i) ∧ w' 73 1 = 0 ∧ w' 73 71 = n ∧ ∀ i : Int, 0 ≤ i → i < n → w' 111 i = orow (w 109) (w 110) (mTr w) n (tb S) (-1) i))) zNo 44 [zR 73, zI S] [] (ZZ t dr tx) q_3_w
        refine zA_aload_n dX12_order_44 rfl ?_
        refine zA_getI dX12_order_45 fX12_476 c73 rfl ?_
        refine zA_valI (q_3_w 73 72) rfl ?_
        refine zA_iret dX12_order_48 rfl ?_
        refine ⟨rfl, Or.inr ⟨⟨by omega, by rw [← e75]; exact hdz, by omega⟩, n, hpn, by omega, by rw [hq7], fun c i a b e => ?_, ?_, by rw [hq5]; omega, fun i a b => ?_⟩⟩
        · rw [hq1 c i a b (by omega)]; exact ef2 c i (by omega)
        · rw [hq1 73 1 (by decide) (by decide) (Or.inr (by decide)), hw_2, up_idx _ _ _ _ (by decide), hw_1, up_same]
        · rw [hq6 i a (by omega), if_neg (by omega), f1, f2, f3, show i - 0 = i by omega]
      · skip
        refine zA_iconst dX12_order_29 ?_
        refine zA_iret dX12_order_30 rfl ?_
        refine ⟨rfl, Or.inl ⟨fun h => ?_, rfl, hw_1⟩⟩
        obtain ⟨a, b, c⟩ := h
        rw [← e75] at b
        omega

