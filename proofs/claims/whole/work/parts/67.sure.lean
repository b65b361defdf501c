/-! what is sure -/
theorem tb_and {x y : Int} (x0 : 0 ≤ x) (x1 : x < 2147483648) (y0 : 0 ≤ y) (y1 : y < 2147483648) : (0 ≤ iAnd x y ∧ iAnd x y ≤ x) ∧ ∀ j : Int, 0 ≤ j → tb (iAnd x y) j = (tb x j && tb y j) := by
  have e := iAnd_nn x0 x1 y0 y1
  have hl : x.toNat &&& y.toNat ≤ x.toNat := Nat.and_le_left
  rw [e]
  refine ⟨⟨by omega, by omega⟩, fun j _ => ?_⟩
  unfold tb
  rw [Int.toNat_natCast, Nat.testBit_and]
theorem tb_orr {x y : Int} (x0 : 0 ≤ x) (x1 : x < 2147483648) (y0 : 0 ≤ y) (y1 : y < 2147483648) : (0 ≤ iOr x y ∧ iOr x y < 2147483648) ∧ ∀ j : Int, 0 ≤ j → tb (iOr x y) j = (tb x j || tb y j) := by
  have e := iOr_nn x0 x1 y0 y1
  have hl : x.toNat ||| y.toNat < 2 ^ 31 := Nat.or_lt_two_pow (by omega) (by omega)
  rw [e]
  refine ⟨⟨by omega, by omega⟩, fun j _ => ?_⟩
  unfold tb
  rw [Int.toNat_natCast, Nat.testBit_or]
theorem tb_xor {x y : Int} (x0 : 0 ≤ x) (x1 : x < 2147483648) (y0 : 0 ≤ y) (y1 : y < 2147483648) : (0 ≤ iXor x y ∧ iXor x y < 2147483648) ∧ ∀ j : Int, 0 ≤ j → tb (iXor x y) j = (tb x j ^^ tb y j) := by
  have e0 : (Int32.ofInt x ^^^ Int32.ofInt y).toBitVec.toNat = x.toNat ^^^ y.toNat := by
    rw [Int32.toBitVec_xor, BitVec.toNat_xor, z_bv x0 x1, z_bv y0 y1]
  have hl : x.toNat ^^^ y.toNat < 2 ^ 31 := Nat.xor_lt_two_pow (by omega) (by omega)
  have e : iXor x y = ((x.toNat ^^^ y.toNat : Nat) : Int) := by
    unfold iXor
    rw [z_toInt (by omega), e0]
  rw [e]
  refine ⟨⟨by omega, by omega⟩, fun j _ => ?_⟩
  unfold tb
  rw [Int.toNat_natCast, Nat.testBit_xor]
theorem tb_andn {x y : Int} (x0 : 0 ≤ x) (x1 : x < 2147483648) (y0 : 0 ≤ y) (y1 : y < 2147483648) : (0 ≤ iAnd x (iXor y (-1)) ∧ iAnd x (iXor y (-1)) ≤ x) ∧ ∀ j : Int, 0 ≤ j → tb (iAnd x (iXor y (-1))) j = (tb x j && !tb y j) := by
  have e : (Int32.ofInt x &&& Int32.ofInt (iXor y (-1))).toBitVec = (Int32.ofInt x).toBitVec &&& ~~~ (Int32.ofInt y).toBitVec := by
    unfold iXor
    rw [zof, Int32.toBitVec_and, Int32.toBitVec_xor]
    congr 1
    rw [show (Int32.ofInt (-1)).toBitVec = BitVec.allOnes 32 by decide, BitVec.xor_allOnes]
  have hle : (Int32.ofInt x &&& Int32.ofInt (iXor y (-1))).toBitVec.toNat ≤ x.toNat := by
    rw [e, BitVec.toNat_and, z_bv x0 x1]
    exact Nat.and_le_left
  have e2 : iAnd x (iXor y (-1)) = ((Int32.ofInt x &&& Int32.ofInt (iXor y (-1))).toBitVec.toNat : Int) := by
    unfold iAnd
    rw [z_toInt (by omega)]
  rw [e2]
  refine ⟨⟨by omega, by omega⟩, fun j j0 => ?_⟩
  unfold tb
  rw [Int.toNat_natCast, e, BitVec.testBit_toNat, BitVec.getLsbD_and, BitVec.getLsbD_not, ← BitVec.testBit_toNat, ← BitVec.testBit_toNat, z_bv x0 x1, z_bv y0 y1]
  by_cases hj : j.toNat < 32
  · simp [hj]
  · have hx : x.toNat.testBit j.toNat = false := Nat.testBit_lt_two_pow (Nat.lt_of_lt_of_le (show x.toNat < 2 ^ 31 by omega) (Nat.pow_le_pow_right (by decide) (by omega)))
    simp [hx]
def isSure (fit : Int → Bool) (N n sd r : Int) : Prop := (ixF fit N = 0 → r = 0) ∧ (ixF fit N ≠ 0 → (0 ≤ r ∧ r < N) ∧ ∀ b : Int, 0 ≤ b → b < n → (tb r b = true ↔ ∀ c : Int, 0 ≤ c → c < N → fit c = true → tb c b = decide (sd = 0)))
theorem isSure_u {fit : Int → Bool} {n sd r r' : Int} (n0 : 0 ≤ n) (h : isSure fit ((2 ^ n.toNat : Nat) : Int) n sd r) (h' : isSure fit ((2 ^ n.toNat : Nat) : Int) n sd r') : r = r' := by
  by_cases e : ixF fit ((2 ^ n.toNat : Nat) : Int) = 0
  · rw [h.1 e, h'.1 e]
  · obtain ⟨a1, a2⟩ := h.2 e
    obtain ⟨b1, b2⟩ := h'.2 e
    refine tb_ext a1.1 b1.1 (fun j j0 => ?_)
    by_cases hj : j < n
    · exact tb_iff ((a2 j j0 hj).trans (b2 j j0 hj).symm)
    · rw [tb_Mhi n0 a1.2 (by omega), tb_Mhi n0 b1.2 (by omega)]
theorem isSure_c {fit fit' : Int → Bool} {N n sd r : Int} (h : ∀ c : Int, 0 ≤ c → c < N → fit c = fit' c) (k : isSure fit N n sd r) : isSure fit' N n sd r := by
  have e : ixF fit N = ixF fit' N := ixF_c h
  refine ⟨fun q => k.1 (by rw [e]; exact q), fun q => ?_⟩
  obtain ⟨a, b⟩ := k.2 (by rw [e]; exact q)
  refine ⟨a, fun x x0 x1 => (b x x0 x1).trans ⟨fun g c c0 c1 hc => g c c0 c1 (by rw [h c c0 c1]; exact hc), fun g c c0 c1 hc => g c c0 c1 (by rw [← h c c0 c1]; exact hc)⟩⟩
set_option maxRecDepth 100000 in
set_option maxHeartbeats 4000000 in
theorem s_inAll {l : Launch} {t dr tx : Nat} {w : zW} {z : Int} (hz : z = 0 ∨ z = 1) (p0 : 2 ≤ w 34 4) (p1 : w 34 4 ≤ 14) {fit : Int → Bool} (hl : lOk fit (w 35) (w 34 9) ((2 ^ (w 34 4).toNat : Nat) : Int))  : zSp l mX9_inAll false 1 0 0 [zR 34, zI z] (ZZ t dr tx) w (zRp1 (isSure fit ((2 ^ (w 34 4).toNat : Nat) : Int) (w 34 4) z) (ZZ t dr tx) w) zNo := by
  refine zA_intro ⟨plainFor_of_name (by decide +kernel), Or.inl (by decide +kernel)⟩ rfl (Nat.le_of_ble_eq_true rfl) ?_
  have hpw := pow14 (m := w 34 4) (by omega) p1
  have hmb := ixF_b (fit := fit) (c := ((2 ^ (w 34 4).toNat : Nat) : Int))
  rw [← hl.1] at hmb
  refine zA_range (fun hr => ?_)
  show zA l mX9_inAll false 1 0 0 (zRp1 (isSure fit ((2 ^ (w 34 4).toNat : Nat) : Int) (w 34 4) z) (ZZ t dr tx) w) zNo 0 [zR 34, zI z, .null, .null, .null] [] (ZZ t dr tx) w
  refine zA_aload_n dX9_inAll_0 rfl ?_
  refine zA_getI dX9_inAll_1 fX9_41 c34 rfl ?_
  refine zA_valI (w 34 9) rfl ?_
  refine zA_if_ne (tgt := 9) dX9_inAll_4 (by decide) (by first | assumption | exact hr _ _ | exact inR_mk (by omega) (by omega)) (fun c4 => ?_) (fun c4 => ?_)
  · skip
    refine zA_iconst dX9_inAll_9 ?_
    refine zA_aload_n dX9_inAll_10 rfl ?_
    refine zA_getI dX9_inAll_11 fX9_24 c34 rfl ?_
    refine zA_valI (w 34 4) rfl ?_
    refine zA_ishl dX9_inAll_14 ?_
    refine zA_iconst dX9_inAll_15 ?_
    refine zA_isub dX9_inAll_16 ?_
    refine zA_valI (((2 ^ (w 34 4).toNat : Nat) : Int) - 1) (by rw [iShl_1 (by omega) (by omega)]) ?_
    refine zA_istore_n (lo1 := [zR 34, zI z, zI (((2 ^ (w 34 4).toNat : Nat) : Int) - 1), .null, .null]) dX9_inAll_17 (by decide) rfl rfl ?_
    have L28 : ∀ (fl : Int) (f0 : 0 ≤ fl) (f1 : fl < 16384) (hfl : ∀ b : Int, 0 ≤ b → b < w 34 4 → tb fl b = decide (z = 1)), zA l mX9_inAll false 1 0 0 (zRp1 (isSure fit ((2 ^ (w 34 4).toNat : Nat) : Int) (w 34 4) z) (ZZ t dr tx) w) zNo 28 [zR 34, zI z, zI (((2 ^ (w 34 4).toNat : Nat) : Int) - 1), zI fl, .null] [] (ZZ t dr tx) w := by
      intro fl f0 f1 hfl
      refine zA_iconst dX9_inAll_28 ?_
      refine zA_istore (lo1 := [zR 34, zI z, zI (((2 ^ (w 34 4).toNat : Nat) : Int) - 1), zI fl, zI 0]) dX9_inAll_29 (by decide) rfl rfl ?_
      have L31 : ∀ (z31 : Nat) (al p : Int) (q0 : 0 ≤ p) (q1 : p ≤ w 34 9) (a0 : 0 ≤ al) (a1 : al < ((2 ^ (w 34 4).toNat : Nat) : Int)) (ha : ∀ b : Int, 0 ≤ b → b < w 34 4 → (tb al b = true ↔ ∀ x : Int, 0 ≤ x → x < p → tb (w 35 x) b = decide (z = 0))) (zm : (w 34 9 - p).toNat < z31), zA l mX9_inAll false 1 0 0 (zRp1 (isSure fit ((2 ^ (w 34 4).toNat : Nat) : Int) (w 34 4) z) (ZZ t dr tx) w) zNo 31 [zR 34, zI z, zI al, zI fl, zI p] [] (ZZ t dr tx) w := by
        intro z31
        induction z31 with
        | zero => intro al p q0 q1 a0 a1 ha zm; exact absurd zm (Nat.not_lt_zero _)
        | succ z31 ih31 =>
          intro al p q0 q1 a0 a1 ha zm
          refine zA_iload dX9_inAll_31 rfl ?_
          refine zA_aload_n dX9_inAll_33 rfl ?_
          refine zA_getI dX9_inAll_34 fX9_41 c34 rfl ?_
          refine zA_valI (w 34 9) rfl ?_
          refine zA_icmp_ge (tgt := 58) dX9_inAll_37 (by decide) (by first | assumption | exact hr _ _ | exact inR_mk (by omega) (by omega)) (by first | assumption | exact hr _ _ | exact inR_mk (by omega) (by omega)) (fun c37 => ?_) (fun c37 => ?_)
          · skip
            refine zA_iload_n dX9_inAll_58 rfl ?_
            refine zA_iret dX9_inAll_59 rfl ?_
            refine ⟨⟨_, rfl, ⟨fun h => by rw [← hl.1] at h; omega, fun _ => ⟨⟨a0, a1⟩, fun b b0 b1 => (ha b b0 b1).trans ⟨fun h c c0 c1 hc => ?_, fun h x x0 x1 => ?_⟩⟩⟩⟩, rfl, rfl⟩
            · have h2 := hl.2.2 c c0 c1 hc
              have h3 := h (ixF fit c) (ixF_b).1 (by omega)
              rw [h2.2] at h3; exact h3
            · have h2 := hl.2.1 x x0 (by omega)
              exact h (w 35 x) h2.1.1 h2.1.2 h2.2.1
          · skip
            have hlp := hl.2.1 p q0 (by omega)
            have hxo := tb_xor (x := w 35 p) (y := fl) hlp.1.1 (by omega) f0 (by omega)
            have had := tb_and (x := al) (y := iXor (w 35 p) fl) a0 (by omega) hxo.1.1 hxo.1.2
            refine zA_iload_n dX9_inAll_40 rfl ?_
            refine zA_aload_n dX9_inAll_41 rfl ?_
            refine zA_getR (n := 35) dX9_inAll_42 fX9_11 c34 rfl ?_
            refine zA_iload dX9_inAll_45 rfl ?_
            refine zA_iaload dX9_inAll_47 c35 (by first | assumption | omega) (by first | assumption | omega) (by decide) ?_
            refine zA_iload_n dX9_inAll_48 rfl ?_
            refine zA_ixor dX9_inAll_49 ?_
            refine zA_iand dX9_inAll_50 ?_
            refine zA_istore_n (lo1 := [zR 34, zI z, zI (iAnd al (iXor (w 35 p) fl)), zI fl, zI p]) dX9_inAll_51 (by decide) rfl rfl ?_
            refine zA_iinc (lo1 := [zR 34, zI z, zI (iAnd al (iXor (w 35 p) fl)), zI fl, zI (p + 1)]) dX9_inAll_52 rfl (by decide) rfl rfl ?_
            refine zA_goto (tgt := 31) dX9_inAll_55 (by decide) ?_
            exact ih31 _ (p + 1) (by omega) (by omega) had.1.1 (by omega) (fun b b0 b1 => by
                          rw [had.2 b b0, hxo.2 b b0, hfl b b0 b1, Bool.and_eq_true, ha b b0 b1]
                          constructor
                          · rintro ⟨h1, h2⟩ x x0 x1
                            by_cases e : x = p
                            · rw [e]
                              rcases hz with hz | hz <;> subst hz <;> revert h2 <;> cases tb (w 35 p) b <;> decide
                            · exact h1 x x0 (by omega)
                          · intro h
                            refine ⟨fun x x0 x1 => h x x0 (by omega), ?_⟩
                            have h2 := h p q0 (by omega)
                            rcases hz with hz | hz <;> subst hz <;> revert h2 <;> cases tb (w 35 p) b <;> decide) (by omega)
      exact L31 _ (((2 ^ (w 34 4).toNat : Nat) : Int) - 1) 0 (by omega) (by omega) (by omega) (by omega) (fun b b0 b1 => by rw [tb_M1 b (by omega) b0, decide_eq_true b1]; exact ⟨fun _ x h1 h2 => by omega, fun _ => rfl⟩) (Nat.lt_succ_self _)
    refine zA_iload_n dX9_inAll_18 rfl ?_
    refine zA_if_eq (tgt := 26) dX9_inAll_19 (by decide) (by first | assumption | exact hr _ _ | exact inR_mk (by omega) (by omega)) (fun c19 => ?_) (fun c19 => ?_)
    · skip
      refine zA_iconst dX9_inAll_26 ?_
      refine zA_istore_n (lo1 := [zR 34, zI z, zI (((2 ^ (w 34 4).toNat : Nat) : Int) - 1), zI 0, .null]) dX9_inAll_27 (by decide) rfl rfl ?_
      exact L28 0 (by omega) (by omega) (fun b b0 b1 => by rw [tb_0, decide_eq_false (by omega)])
    · skip
      refine zA_iload_n dX9_inAll_22 rfl ?_
      refine zA_goto (tgt := 27) dX9_inAll_23 (by decide) ?_
      refine zA_istore_n (lo1 := [zR 34, zI z, zI (((2 ^ (w 34 4).toNat : Nat) : Int) - 1), zI (((2 ^ (w 34 4).toNat : Nat) : Int) - 1), .null]) dX9_inAll_27 (by decide) rfl rfl ?_
      exact L28 _ (by omega) (by omega) (fun b b0 b1 => by rw [tb_M1 b (by omega) b0, decide_eq_true b1, decide_eq_true (by omega)])
  · skip
    refine zA_iconst dX9_inAll_7 ?_
    refine zA_iret dX9_inAll_8 rfl ?_
    exact ⟨⟨_, rfl, ⟨fun _ => rfl, fun h => by rw [← hl.1] at h; omega⟩⟩, rfl, rfl⟩

set_option maxRecDepth 100000 in
set_option maxHeartbeats 4000000 in
theorem s_sure {l : Launch} {t dr tx : Nat} {w : zW} {k : Int} (hk : inR k) {fit : Int → Bool} (hT : w 34 8 ≠ 0 → (2 ≤ w 34 4 ∧ w 34 4 ≤ 14) ∧ lOk fit (w 35) (w 34 9) ((2 ^ (w 34 4).toNat : Nat) : Int)) : zSp l mX11_sure false 3 2 12 [zR 0, zI k] (ZZ t dr tx) w (zIr (0 ≤ k ∧ k < 3) (fun r => (k = 2 → r = w 34 9) ∧ (k ≠ 2 → isSure fit ((2 ^ (w 34 4).toNat : Nat) : Int) (w 34 4) k r)) (ZZ t dr tx) w) (zXp (¬ (0 ≤ k ∧ k < 3)) ((0 ≤ k ∧ k < 3) ∧ w 34 8 = 0) (ZZ t dr tx) w) := by
  refine zA_intro ⟨plainFor_of_name (by decide +kernel), Or.inl (by decide +kernel)⟩ rfl (Nat.le_of_ble_eq_true rfl) ?_
  refine zA_range (fun hr => ?_)
  show zA l mX11_sure false 3 2 12 (zIr (0 ≤ k ∧ k < 3) (fun r => (k = 2 → r = w 34 9) ∧ (k ≠ 2 → isSure fit ((2 ^ (w 34 4).toNat : Nat) : Int) (w 34 4) k r)) (ZZ t dr tx) w) (zXp (¬ (0 ≤ k ∧ k < 3)) ((0 ≤ k ∧ k < 3) ∧ w 34 8 = 0) (ZZ t dr tx) w) 0 [zR 0, zI k] [] (ZZ t dr tx) w
  refine zA_iload_n dX11_sure_0 rfl ?_
  refine zA_iconst dX11_sure_1 ?_
  refine zA_callS (bc2 := 1) (bs2 := 6) (st := []) dX11_sure_2 sX11_askWhat kX11_165 (s_askWhat (w := w) (c := k) (n := 3) (by first | assumption | exact hr _ _ | exact inR_mk (by omega) (by omega)) ⟨by decide, by decide⟩) (by decide) rfl rfl (Nat.le_of_ble_eq_true rfl) ⟨rfl, rfl⟩ (zRa_el (fun h_2 => ?_)) (zXp_m rfl (fun h => by first | exact h.elim | omega) (fun h => by first | exact h.elim | omega))
  show zA l mX11_sure false 3 1 6 (zIr (0 ≤ k ∧ k < 3) (fun r => (k = 2 → r = w 34 9) ∧ (k ≠ 2 → isSure fit ((2 ^ (w 34 4).toNat : Nat) : Int) (w 34 4) k r)) (ZZ t dr tx) w) (zXp (¬ (0 ≤ k ∧ k < 3)) ((0 ≤ k ∧ k < 3) ∧ w 34 8 = 0) (ZZ t dr tx) w) 5 [zR 0, zI k] [] (ZZ t dr tx) w
  refine zA_aload_n dX11_sure_5 rfl ?_
  refine zA_getR (n := 34) dX11_sure_6 fX11_57 c0 rfl ?_
  refine zA_getI dX11_sure_9 fX11_264 c34 rfl ?_
  refine zA_valI (w 34 8) rfl ?_
  refine zA_if_ne (tgt := 26) dX11_sure_12 (by decide) (by first | assumption | exact hr _ _ | exact inR_mk (by omega) (by omega)) (fun c12 => ?_) (fun c12 => ?_)
  · skip
    obtain ⟨⟨p0, p1⟩, hl⟩ := hT c12
    refine zA_iload_n dX11_sure_26 rfl ?_
    refine zA_iconst dX11_sure_27 ?_
    refine zA_icmp_ne (tgt := 39) dX11_sure_28 (by decide) (by first | assumption | exact hr _ _ | exact inR_mk (by omega) (by omega)) ⟨by decide, by decide⟩ (fun c28 => ?_) (fun c28 => ?_)
    · skip
      refine zA_aload_n dX11_sure_39 rfl ?_
      refine zA_getR (n := 34) dX11_sure_40 fX11_57 c0 rfl ?_
      refine zA_iload_n dX11_sure_43 rfl ?_
      refine zA_iconst dX11_sure_44 ?_
      refine zA_icmp_ne (tgt := 52) dX11_sure_45 (by decide) (by first | assumption | exact hr _ _ | exact inR_mk (by omega) (by omega)) ⟨by decide, by decide⟩ (fun c45 => ?_) (fun c45 => ?_)
      · skip
        refine zA_iconst dX11_sure_52 ?_
        refine zA_cV (st := []) dX11_sure_53 vX9_inAll kX11_282 (s_inAll (w := w) (z := 0) (by decide) p0 p1 hl) (by decide) c34 rfl rfl (Nat.le_of_ble_eq_true rfl) rfl (zRp1_el (fun sr hsr => ?_))
        refine zA_iret dX11_sure_56 rfl ?_
        exact ⟨by omega, ⟨_, rfl, fun h => by omega, fun _ => by first | (rw [show k = 1 by omega]; exact hsr) | (rw [show k = 0 by omega]; exact hsr)⟩, rfl, rfl⟩
      · skip
        refine zA_iconst dX11_sure_48 ?_
        refine zA_goto (tgt := 53) dX11_sure_49 (by decide) ?_
        refine zA_cV (st := []) dX11_sure_53 vX9_inAll kX11_282 (s_inAll (w := w) (z := 1) (by decide) p0 p1 hl) (by decide) c34 rfl rfl (Nat.le_of_ble_eq_true rfl) rfl (zRp1_el (fun sr hsr => ?_))
        refine zA_iret dX11_sure_56 rfl ?_
        exact ⟨by omega, ⟨_, rfl, fun h => by omega, fun _ => by first | (rw [show k = 1 by omega]; exact hsr) | (rw [show k = 0 by omega]; exact hsr)⟩, rfl, rfl⟩
    · skip
      refine zA_aload_n dX11_sure_31 rfl ?_
      refine zA_getR (n := 34) dX11_sure_32 fX11_57 c0 rfl ?_
      refine zA_getI dX11_sure_35 fX11_277 c34 rfl ?_
      refine zA_valI (w 34 9) rfl ?_
      refine zA_iret dX11_sure_38 rfl ?_
      exact ⟨by omega, ⟨_, rfl, fun _ => rfl, fun h => by omega⟩, rfl, rfl⟩
  · skip
    refine zA_throw (sa := 1111) (zIAE_w dX11_sure_15 dX11_sure_18 ⟨dX11_sure_19, dX11_sure_22, dX11_sure_25⟩) (List.mem_of_getElem? (i := 11) rfl) rfl rfl (Nat.le_of_ble_eq_true rfl) (by decide) ?_
    exact ⟨Or.inr ⟨rfl, by omega⟩, rfl, rfl⟩

set_option maxRecDepth 100000 in
set_option maxHeartbeats 4000000 in
theorem m_sure {l : Launch} {t dr tx : Nat} {w : zW} {k : Int} (hk : inR k) (hp : w 73 39 = 0 ∨ (2 ≤ w 73 39 ∧ w 73 39 ≤ 14)) (hbo : ∀ c : Int, 0 ≤ c → w 93 c = 0 ∨ w 93 c = 1) : zSp l mX12_sure false 3 0 0 [zR 73, zI k] (ZZ t dr tx) w (zMr (¬ (0 ≤ k ∧ k < 3)) (w 73 39 = 0) (fun r => (k = 2 → r = ixF (mF w) ((2 ^ (w 73 39).toNat : Nat) : Int)) ∧ (k ≠ 2 → isSure (mF w) ((2 ^ (w 73 39).toNat : Nat) : Int) (w 73 39) k r)) (ZZ t dr tx) w (up w 73 1 0)) zNo := by
  refine zA_intro ⟨plainFor_of_name (by decide +kernel), Or.inl (by decide +kernel)⟩ rfl (Nat.le_of_ble_eq_true rfl) ?_
  refine zA_range (fun hr => ?_)
  show zA l mX12_sure false 3 0 0 (zMr (¬ (0 ≤ k ∧ k < 3)) (w 73 39 = 0) (fun r => (k = 2 → r = ixF (mF w) ((2 ^ (w 73 39).toNat : Nat) : Int)) ∧ (k ≠ 2 → isSure (mF w) ((2 ^ (w 73 39).toNat : Nat) : Int) (w 73 39) k r)) (ZZ t dr tx) w (up w 73 1 0)) zNo 0 [zR 73, zI k, .null, .null, .null, .null] [] (ZZ t dr tx) w
  refine zA_aload_n dX12_sure_0 rfl ?_
  refine zA_iconst dX12_sure_1 ?_
  refine zA_putI dX12_sure_2 fX12_182 c73 rfl ⟨by decide, by decide⟩ ⟨rfl, rfl⟩ ?_
  refine zA_namew (fun w_1 hw_1 => ?_)
  refine zA_range (fun hr => ?_)
  replace hw_1 : w_1 = up w 73 1 0 := hw_1
  have ef : ∀ cc i, (cc ≠ 73 ∨ i ≠ 1) → w_1 cc i = w cc i := fun cc i h => by
    by_cases hc : cc = 73
    · subst hc; rw [hw_1, up_idx _ _ _ _ (by omega)]
    · rw [hw_1, up_cell _ _ _ _ hc]
  have f39 : w_1 73 39 = w 73 39 := ef 73 39 (Or.inr (by decide))
  have hmF : mF w_1 = mF w := funext fun x => by unfold mF; rw [ef 93 x (Or.inl (by decide))]
  refine zA_iload_n dX12_sure_5 rfl ?_
  refine zA_iconst dX12_sure_6 ?_
  refine zA_iconst dX12_sure_7 ?_
  refine zA_cS (st := []) dX12_sure_8 sX12_isIn kX12_185 (m_isIn (w := w_1) (a := k) (b := 0) (e := 2) (by first | assumption | exact hr _ _ | exact inR_mk (by omega) (by omega)) ⟨by decide, by decide⟩ ⟨by decide, by decide⟩) (by decide) rfl rfl (Nat.le_of_ble_eq_true rfl) (zRt_el ?_)
  show zA l mX12_sure false 3 0 0 (zMr (¬ (0 ≤ k ∧ k < 3)) (w 73 39 = 0) (fun r => (k = 2 → r = ixF (mF w) ((2 ^ (w 73 39).toNat : Nat) : Int)) ∧ (k ≠ 2 → isSure (mF w) ((2 ^ (w 73 39).toNat : Nat) : Int) (w 73 39) k r)) (ZZ t dr tx) w (up w 73 1 0)) zNo 11 [zR 73, zI k, .null, .null, .null, .null] [zI (if 0 ≤ k ∧ k ≤ 2 then 1 else 0)] (ZZ t dr tx) w_1
  refine zA_if_ne (tgt := 20) dX12_sure_11 (by decide) (inR_ite _) (fun c11 => ?_) (fun c11 => ?_)
  · skip
    replace c11 := zite_ne c11
    refine zA_aload_n dX12_sure_20 rfl ?_
    refine zA_getI dX12_sure_21 fX12_378 c73 rfl ?_
    refine zA_valI (w_1 73 39) rfl ?_
    refine zA_if_ne (tgt := 33) dX12_sure_24 (by decide) (by first | assumption | exact hr _ _ | exact inR_mk (by omega) (by omega)) (fun c24 => ?_) (fun c24 => ?_)
    · skip
      have p0 : 2 ≤ w 73 39 := by omega
      have p1 : w 73 39 ≤ 14 := by omega
      have hpw := pow14 (m := w 73 39) (by omega) p1
      have hmb := ixF_b (fit := mF w) (c := ((2 ^ (w 73 39).toNat : Nat) : Int))
      refine zA_aload_n dX12_sure_33 rfl ?_
      refine zA_cV (st := []) dX12_sure_34 vX12_fitting kX12_402 (m_fitting (w := w_1) (by rw [f39]; exact p0) (by rw [f39]; exact p1) (fun x x0 => by rw [ef 93 x (Or.inl (by decide))]; exact hbo x x0)) (by decide) c73 rfl rfl (Nat.le_of_ble_eq_true rfl) rfl (zRt_el ?_)
      show zA l mX12_sure false 3 0 0 (zMr (¬ (0 ≤ k ∧ k < 3)) (w 73 39 = 0) (fun r => (k = 2 → r = ixF (mF w) ((2 ^ (w 73 39).toNat : Nat) : Int)) ∧ (k ≠ 2 → isSure (mF w) ((2 ^ (w 73 39).toNat : Nat) : Int) (w 73 39) k r)) (ZZ t dr tx) w (up w 73 1 0)) zNo 37 [zR 73, zI k, .null, .null, .null, .null] [zI (ixF (mF w_1) ((2 ^ (w_1 73 39).toNat : Nat) : Int))] (ZZ t dr tx) w_1
      refine zA_valI (ixF (mF w) ((2 ^ (w 73 39).toNat : Nat) : Int)) (by rw [hmF, f39]) ?_
      refine zA_istore_n (lo1 := [zR 73, zI k, zI (ixF (mF w) ((2 ^ (w 73 39).toNat : Nat) : Int)), .null, .null, .null]) dX12_sure_37 (by decide) rfl rfl ?_
      refine zA_iconst dX12_sure_38 ?_
      refine zA_aload_n dX12_sure_39 rfl ?_
      refine zA_getI dX12_sure_40 fX12_378 c73 rfl ?_
      refine zA_valI (w_1 73 39) rfl ?_
      refine zA_ishl dX12_sure_43 ?_
      refine zA_iconst dX12_sure_44 ?_
      refine zA_isub dX12_sure_45 ?_
      refine zA_valI (((2 ^ (w 73 39).toNat : Nat) : Int) - 1) (by rw [f39, iShl_1 (by omega) (by omega)]) ?_
      refine zA_istore_n (lo1 := [zR 73, zI k, zI (ixF (mF w) ((2 ^ (w 73 39).toNat : Nat) : Int)), zI (((2 ^ (w 73 39).toNat : Nat) : Int) - 1), .null, .null]) dX12_sure_46 (by decide) rfl rfl ?_
      refine zA_iconst dX12_sure_47 ?_
      refine zA_istore (lo1 := [zR 73, zI k, zI (ixF (mF w) ((2 ^ (w 73 39).toNat : Nat) : Int)), zI (((2 ^ (w 73 39).toNat : Nat) : Int) - 1), zI 0, .null]) dX12_sure_48 (by decide) rfl rfl ?_
      refine zA_iconst dX12_sure_50 ?_
      refine zA_istore (lo1 := [zR 73, zI k, zI (ixF (mF w) ((2 ^ (w 73 39).toNat : Nat) : Int)), zI (((2 ^ (w 73 39).toNat : Nat) : Int) - 1), zI 0, zI 0]) dX12_sure_51 (by decide) rfl rfl ?_
      have L53 : ∀ (z53 : Nat) (al so c : Int) (c0 : 0 ≤ c) (c1 : c ≤ ((2 ^ (w 73 39).toNat : Nat) : Int)) (a0 : 0 ≤ al) (a1 : al < ((2 ^ (w 73 39).toNat : Nat) : Int)) (o0 : 0 ≤ so) (o1 : so < 16384) (ha : ∀ b : Int, 0 ≤ b → b < w 73 39 → (tb al b = true ↔ ∀ x : Int, 0 ≤ x → x < c → mF w x = true → tb x b = true)) (ho : ∀ b : Int, 0 ≤ b → b < w 73 39 → (tb so b = false ↔ ∀ x : Int, 0 ≤ x → x < c → mF w x = true → tb x b = false)) (zm : (((2 ^ (w 73 39).toNat : Nat) : Int) - c).toNat < z53), zA l mX12_sure false 3 0 0 (zMr (¬ (0 ≤ k ∧ k < 3)) (w 73 39 = 0) (fun r => (k = 2 → r = ixF (mF w) ((2 ^ (w 73 39).toNat : Nat) : Int)) ∧ (k ≠ 2 → isSure (mF w) ((2 ^ (w 73 39).toNat : Nat) : Int) (w 73 39) k r)) (ZZ t dr tx) w (up w 73 1 0)) zNo 53 [zR 73, zI k, zI (ixF (mF w) ((2 ^ (w 73 39).toNat : Nat) : Int)), zI al, zI so, zI c] [] (ZZ t dr tx) w_1 := by
        intro z53
        induction z53 with
        | zero => intro al so c c0 c1 a0 a1 o0 o1 ha ho zm; exact absurd zm (Nat.not_lt_zero _)
        | succ z53 ih53 =>
          intro al so c c0 c1 a0 a1 o0 o1 ha ho zm
          refine zA_iload dX12_sure_53 rfl ?_
          refine zA_iconst dX12_sure_55 ?_
          refine zA_aload_n dX12_sure_56 rfl ?_
          refine zA_getI dX12_sure_57 fX12_378 c73 rfl ?_
          refine zA_valI (w_1 73 39) rfl ?_
          refine zA_ishl dX12_sure_60 ?_
          refine zA_valI ((2 ^ (w 73 39).toNat : Nat) : Int) (by rw [f39, iShl_1 (by omega) (by omega)]) ?_
          refine zA_icmp_ge (tgt := 95) dX12_sure_61 (by decide) (by first | assumption | exact hr _ _ | exact inR_mk (by omega) (by omega)) (by first | assumption | exact hr _ _ | exact inR_mk (by omega) (by omega)) (fun c61 => ?_) (fun c61 => ?_)
          · skip
            refine zA_iload_n dX12_sure_95 rfl ?_
            refine zA_iconst dX12_sure_96 ?_
            refine zA_icmp_eq (tgt := 104) dX12_sure_97 (by decide) (by first | assumption | exact hr _ _ | exact inR_mk (by omega) (by omega)) ⟨by decide, by decide⟩ (fun c97 => ?_) (fun c97 => ?_)
            · skip
              refine zA_iload_n dX12_sure_104 rfl ?_
              refine zA_iret dX12_sure_105 rfl ?_
              exact ⟨rfl, Or.inr (Or.inr ⟨by omega, by omega, ⟨_, rfl, fun _ => rfl, fun h => ⟨fun q => q, fun q => by omega⟩⟩, hw_1⟩)⟩
            · skip
              refine zA_iload_n dX12_sure_100 rfl ?_
              refine zA_if_ne (tgt := 106) dX12_sure_101 (by decide) (by first | assumption | exact hr _ _ | exact inR_mk (by omega) (by omega)) (fun c101 => ?_) (fun c101 => ?_)
              · skip
                refine zA_iload_n dX12_sure_106 rfl ?_
                refine zA_if_ne (tgt := 114) dX12_sure_107 (by decide) (by first | assumption | exact hr _ _ | exact inR_mk (by omega) (by omega)) (fun c107 => ?_) (fun c107 => ?_)
                · skip
                  refine zA_iconst dX12_sure_114 ?_
                  refine zA_aload_n dX12_sure_115 rfl ?_
                  refine zA_getI dX12_sure_116 fX12_378 c73 rfl ?_
                  refine zA_valI (w_1 73 39) rfl ?_
                  refine zA_ishl dX12_sure_119 ?_
                  refine zA_iconst dX12_sure_120 ?_
                  refine zA_isub dX12_sure_121 ?_
                  refine zA_valI (((2 ^ (w 73 39).toNat : Nat) : Int) - 1) (by rw [f39, iShl_1 (by omega) (by omega)]) ?_
                  refine zA_iload dX12_sure_122 rfl ?_
                  refine zA_iconst dX12_sure_124 ?_
                  refine zA_ixor dX12_sure_125 ?_
                  refine zA_iand dX12_sure_126 ?_
                  refine zA_iret dX12_sure_127 rfl ?_
                  have hcn : c = ((2 ^ (w 73 39).toNat : Nat) : Int) := by omega
                  rw [hcn] at ha ho
                  have han := tb_andn (x := ((2 ^ (w 73 39).toNat : Nat) : Int) - 1) (y := so) (by omega) (by omega) o0 (by omega)
                  refine ⟨rfl, Or.inr (Or.inr ⟨by omega, by omega, ⟨_, rfl, fun h => by omega, fun h => ⟨fun q => absurd q (by omega), fun _ => ⟨⟨han.1.1, by omega⟩, fun b b0 b1 => ?_⟩⟩⟩, hw_1⟩)⟩
                  rw [decide_eq_false (show ¬ k = 0 by omega), ← ho b b0 b1, han.2 b b0, tb_M1 b (by omega) b0, decide_eq_true b1]
                  cases tb so b <;> simp
                · skip
                  refine zA_iload_n dX12_sure_110 rfl ?_
                  refine zA_goto (tgt := 127) dX12_sure_111 (by decide) ?_
                  refine zA_iret dX12_sure_127 rfl ?_
                  have hcn : c = ((2 ^ (w 73 39).toNat : Nat) : Int) := by omega
                  rw [hcn] at ha ho
                  refine ⟨rfl, Or.inr (Or.inr ⟨by omega, by omega, ⟨_, rfl, fun h => by omega, fun h => ⟨fun q => absurd q (by omega), fun _ => ⟨⟨a0, a1⟩, fun b b0 b1 => ?_⟩⟩⟩, hw_1⟩)⟩
                  rw [decide_eq_true (show k = 0 by omega)]
                  exact ha b b0 b1
              · skip
                refine zA_iload_n dX12_sure_104 rfl ?_
                refine zA_iret dX12_sure_105 rfl ?_
                exact ⟨rfl, Or.inr (Or.inr ⟨by omega, by omega, ⟨_, rfl, fun _ => rfl, fun h => ⟨fun q => q, fun q => by omega⟩⟩, hw_1⟩)⟩
          · skip
            have e93 : w_1 93 c = w 93 c := ef 93 c (Or.inl (by decide))
            have hboc := hbo c c0
            have had := tb_and (x := al) (y := c) a0 (by omega) c0 (by omega)
            have hoo := tb_orr (x := so) (y := c) o0 (by omega) c0 (by omega)
            refine zA_aload_n dX12_sure_64 rfl ?_
            refine zA_getR (n := 93) dX12_sure_65 fX12_84 c73 rfl ?_
            refine zA_iload dX12_sure_68 rfl ?_
            refine zA_baload dX12_sure_70 c93 (by first | assumption | omega) (by first | assumption | omega) (by decide) ?_
            refine zA_if_ne (tgt := 77) dX12_sure_71 (by decide) (by first | assumption | exact hr _ _ | exact inR_mk (by omega) (by omega)) (fun c71 => ?_) (fun c71 => ?_)
            · skip
              have hcf : mF w c = true := by unfold mF; rw [decide_eq_true_iff]; omega
              have hob : iOr so c < 16384 := by
                have e := tb_lt (k := 14) hoo.1.1 (fun j hj => by
                  rw [hoo.2 j (by omega), tb_hi (k := 14) (by rw [show (2 : Int) ^ 14 = 16384 by decide]; exact o1) hj, tb_hi (k := 14) (by rw [show (2 : Int) ^ 14 = 16384 by decide]; omega) hj]; rfl)
                rw [show (2 : Int) ^ 14 = 16384 by decide] at e
                exact e
              refine zA_iload_n dX12_sure_77 rfl ?_
              refine zA_iload dX12_sure_78 rfl ?_
              refine zA_iand dX12_sure_80 ?_
              refine zA_istore_n (lo1 := [zR 73, zI k, zI (ixF (mF w) ((2 ^ (w 73 39).toNat : Nat) : Int)), zI (iAnd al c), zI so, zI c]) dX12_sure_81 (by decide) rfl rfl ?_
              refine zA_iload dX12_sure_82 rfl ?_
              refine zA_iload dX12_sure_84 rfl ?_
              refine zA_ior dX12_sure_86 ?_
              refine zA_istore (lo1 := [zR 73, zI k, zI (ixF (mF w) ((2 ^ (w 73 39).toNat : Nat) : Int)), zI (iAnd al c), zI (iOr so c), zI c]) dX12_sure_87 (by decide) rfl rfl ?_
              refine zA_iinc (lo1 := [zR 73, zI k, zI (ixF (mF w) ((2 ^ (w 73 39).toNat : Nat) : Int)), zI (iAnd al c), zI (iOr so c), zI (c + 1)]) dX12_sure_89 rfl (by decide) rfl rfl ?_
              refine zA_goto (tgt := 53) dX12_sure_92 (by decide) ?_
              exact ih53 _ _ (c + 1) (by omega) (by omega) had.1.1 (by omega) hoo.1.1 hob (fun b b0 b1 => by
                          rw [had.2 b b0, Bool.and_eq_true, ha b b0 b1]
                          exact ⟨fun ⟨h1, h2⟩ x x0 x1 hx => (by
                            by_cases e : x = c
                            · rw [e]; exact h2
                            · exact h1 x x0 (by omega) hx), fun h => ⟨fun x x0 x1 hx => h x x0 (by omega) hx, h c c0 (by omega) hcf⟩⟩) (fun b b0 b1 => by
                          rw [hoo.2 b b0, Bool.or_eq_false_iff, ho b b0 b1]
                          exact ⟨fun ⟨h1, h2⟩ x x0 x1 hx => (by
                            by_cases e : x = c
                            · rw [e]; exact h2
                            · exact h1 x x0 (by omega) hx), fun h => ⟨fun x x0 x1 hx => h x x0 (by omega) hx, h c c0 (by omega) hcf⟩⟩) (by omega)
            · skip
              refine zA_goto (tgt := 89) dX12_sure_74 (by decide) ?_
              refine zA_iinc (lo1 := [zR 73, zI k, zI (ixF (mF w) ((2 ^ (w 73 39).toNat : Nat) : Int)), zI al, zI so, zI (c + 1)]) dX12_sure_89 rfl (by decide) rfl rfl ?_
              refine zA_goto (tgt := 53) dX12_sure_92 (by decide) ?_
              exact ih53 _ _ (c + 1) (by omega) (by omega) a0 a1 o0 o1 (fun b b0 b1 => (ha b b0 b1).trans ⟨fun h x x0 x1 hx => (by
                          by_cases e : x = c
                          · exfalso; rw [e] at hx; unfold mF at hx; rw [decide_eq_true_iff] at hx; omega
                          · exact h x x0 (by omega) hx), fun h x x0 x1 hx => h x x0 (by omega) hx⟩) (fun b b0 b1 => (ho b b0 b1).trans ⟨fun h x x0 x1 hx => (by
                          by_cases e : x = c
                          · exfalso; rw [e] at hx; unfold mF at hx; rw [decide_eq_true_iff] at hx; omega
                          · exact h x x0 (by omega) hx), fun h x x0 x1 hx => h x x0 (by omega) hx⟩) (by omega)
      exact L53 _ (((2 ^ (w 73 39).toNat : Nat) : Int) - 1) 0 0 (by omega) (by omega) (by omega) (by omega) (by omega) (by omega) (fun b b0 b1 => by rw [tb_M1 b (by omega) b0, decide_eq_true b1]; exact ⟨fun _ x h1 h2 => by omega, fun _ => rfl⟩) (fun b b0 b1 => by rw [tb_0]; exact ⟨fun _ x h1 h2 => by omega, fun _ => rfl⟩) (Nat.lt_succ_self _)
    · skip
      refine zA_aload_n dX12_sure_27 rfl ?_
      refine zA_iconst dX12_sure_28 ?_
      refine zA_cV (st := []) dX12_sure_29 vX12_fail kX12_292 (m_fail (w := w_1) (k := 2) ⟨by decide, by decide⟩) (by decide) c73 rfl rfl (Nat.le_of_ble_eq_true rfl) rfl (zRt_el ?_)
      show zA l mX12_sure false 3 0 0 (zMr (¬ (0 ≤ k ∧ k < 3)) (w 73 39 = 0) (fun r => (k = 2 → r = ixF (mF w) ((2 ^ (w 73 39).toNat : Nat) : Int)) ∧ (k ≠ 2 → isSure (mF w) ((2 ^ (w 73 39).toNat : Nat) : Int) (w 73 39) k r)) (ZZ t dr tx) w (up w 73 1 0)) zNo 32 [zR 73, zI k, .null, .null, .null, .null] [zI 0] (ZZ t dr tx) (up w_1 73 1 2)
      refine zA_iret dX12_sure_32 rfl ?_
      exact ⟨rfl, Or.inr (Or.inl ⟨by omega, by omega, rfl, by rw [hw_1, up_up]⟩)⟩
  · skip
    replace c11 := zite_eq c11
    refine zA_aload_n dX12_sure_14 rfl ?_
    refine zA_iconst dX12_sure_15 ?_
    refine zA_cV (st := []) dX12_sure_16 vX12_fail kX12_292 (m_fail (w := w_1) (k := 1) ⟨by decide, by decide⟩) (by decide) c73 rfl rfl (Nat.le_of_ble_eq_true rfl) rfl (zRt_el ?_)
    show zA l mX12_sure false 3 0 0 (zMr (¬ (0 ≤ k ∧ k < 3)) (w 73 39 = 0) (fun r => (k = 2 → r = ixF (mF w) ((2 ^ (w 73 39).toNat : Nat) : Int)) ∧ (k ≠ 2 → isSure (mF w) ((2 ^ (w 73 39).toNat : Nat) : Int) (w 73 39) k r)) (ZZ t dr tx) w (up w 73 1 0)) zNo 19 [zR 73, zI k, .null, .null, .null, .null] [zI 0] (ZZ t dr tx) (up w_1 73 1 1)
    refine zA_iret dX12_sure_19 rfl ?_
    exact ⟨rfl, Or.inl ⟨by omega, rfl, by rw [hw_1, up_up]⟩⟩

