/-! the foot of bricks in the reference -/
theorem east_ok {b : Int} (h0 : 0 ≤ b) (h1 : b < 16) : zsv0 b = (if b / 4 = 0 then zsv2 (b % 4) else if b / 4 = 1 then -zsv3 (b % 4) else if b / 4 = 2 then -zsv2 (b % 4) else zsv3 (b % 4)) := by
  have h : ∀ k : Nat, k < 16 → zsv0 (k : Int) = (if (k : Int) / 4 = 0 then zsv2 ((k : Int) % 4) else if (k : Int) / 4 = 1 then -zsv3 ((k : Int) % 4) else if (k : Int) / 4 = 2 then -zsv2 ((k : Int) % 4) else zsv3 ((k : Int) % 4)) := by decide
  have := h b.toNat (by omega)
  rwa [zcast h0] at this
theorem north_ok {b : Int} (h0 : 0 ≤ b) (h1 : b < 16) : zsv0 ((b + 12) % 16) = zsv1 b := by
  have h : ∀ k : Nat, k < 16 → zsv0 (((k : Int) + 12) % 16) = zsv1 (k : Int) := by decide
  have := h b.toNat (by omega)
  rwa [zcast h0] at this
set_option maxRecDepth 100000 in
set_option maxHeartbeats 4000000 in
theorem m_eastOf {l : Launch} {w : zW} {S : zS} {b : Int} (h0 : 0 ≤ b) (h1 : b < 16) : zSp l mX12_eastOf false 1 0 0 [zI b] S w (zRt (some (zI (zsv0 b))) S w) zNo := by
  refine zA_intro ⟨plainFor_of_name (by decide +kernel), Or.inl (by decide +kernel)⟩ rfl (Nat.le_of_ble_eq_true rfl) ?_
  refine zA_range (fun hr => ?_)
  show zA l mX12_eastOf false 1 0 0 (zRt (some (zI (zsv0 b))) S w) zNo 0 [zI b, .null, .null] [] S w
  refine zA_iload_n dX12_eastOf_0 rfl ?_
  refine zA_iconst dX12_eastOf_1 ?_
  refine zA_irem dX12_eastOf_2 (by first | assumption | omega) (by first | assumption | omega) (by first | assumption | omega) (by first | assumption | omega) ?_
  refine zA_istore_n (lo1 := [zI b, zI (b % 4), .null]) dX12_eastOf_3 (by decide) rfl rfl ?_
  refine zA_iload_n dX12_eastOf_4 rfl ?_
  refine zA_iconst dX12_eastOf_5 ?_
  refine zA_idiv dX12_eastOf_6 (by first | assumption | omega) (by first | assumption | omega) (by first | assumption | omega) (by first | assumption | omega) ?_
  refine zA_istore_n (lo1 := [zI b, zI (b % 4), zI (b / 4)]) dX12_eastOf_7 (by decide) rfl rfl ?_
  refine zA_iload_n dX12_eastOf_8 rfl ?_
  refine zA_if_ne (tgt := 20) dX12_eastOf_9 (by decide) (by first | assumption | exact hr _ _ | exact inR_mk (by omega) (by omega)) (fun c9 => ?_) (fun c9 => ?_)
  · skip
    refine zA_iload_n dX12_eastOf_20 rfl ?_
    refine zA_iconst dX12_eastOf_21 ?_
    refine zA_icmp_ne (tgt := 34) dX12_eastOf_22 (by decide) (by first | assumption | exact hr _ _ | exact inR_mk (by omega) (by omega)) ⟨by decide, by decide⟩ (fun c22 => ?_) (fun c22 => ?_)
    · skip
      refine zA_iload_n dX12_eastOf_34 rfl ?_
      refine zA_iconst dX12_eastOf_35 ?_
      refine zA_icmp_ne (tgt := 48) dX12_eastOf_36 (by decide) (by first | assumption | exact hr _ _ | exact inR_mk (by omega) (by omega)) ⟨by decide, by decide⟩ (fun c36 => ?_) (fun c36 => ?_)
      · skip
        refine zA_gets (q := zst3) dX12_eastOf_48 zst3_in gX12_411 ?_
        refine zA_iload_n dX12_eastOf_51 rfl ?_
        refine zA_sload (q := zst3) dX12_eastOf_52 zst3_in rfl (by first | assumption | omega) (by first | assumption | (show _ < (4 : Int); omega)) (by decide) ?_
        refine zA_iret dX12_eastOf_53 rfl ?_
        refine zRt_i ?_
        rw [east_ok h0 h1]
        first
        | rw [if_pos (by omega)]
        | rw [if_neg (by omega), if_pos (by omega)]
        | rw [if_neg (by omega), if_neg (by omega), if_pos (by omega)]
        | rw [if_neg (by omega), if_neg (by omega), if_neg (by omega)]
      · skip
        refine zA_gets (q := zst2) dX12_eastOf_39 zst2_in gX12_408 ?_
        refine zA_iload_n dX12_eastOf_42 rfl ?_
        refine zA_sload (q := zst2) dX12_eastOf_43 zst2_in rfl (by first | assumption | omega) (by first | assumption | (show _ < (4 : Int); omega)) (by decide) ?_
        refine zA_ineg dX12_eastOf_44 ?_
        refine zA_goto (tgt := 53) dX12_eastOf_45 (by decide) ?_
        refine zA_iret dX12_eastOf_53 rfl ?_
        refine zRt_i ?_
        rw [east_ok h0 h1]
        first
        | rw [if_pos (by omega)]
        | rw [if_neg (by omega), if_pos (by omega)]
        | rw [if_neg (by omega), if_neg (by omega), if_pos (by omega)]
        | rw [if_neg (by omega), if_neg (by omega), if_neg (by omega)]
    · skip
      refine zA_gets (q := zst3) dX12_eastOf_25 zst3_in gX12_411 ?_
      refine zA_iload_n dX12_eastOf_28 rfl ?_
      refine zA_sload (q := zst3) dX12_eastOf_29 zst3_in rfl (by first | assumption | omega) (by first | assumption | (show _ < (4 : Int); omega)) (by decide) ?_
      refine zA_ineg dX12_eastOf_30 ?_
      refine zA_goto (tgt := 53) dX12_eastOf_31 (by decide) ?_
      refine zA_iret dX12_eastOf_53 rfl ?_
      refine zRt_i ?_
      rw [east_ok h0 h1]
      first
      | rw [if_pos (by omega)]
      | rw [if_neg (by omega), if_pos (by omega)]
      | rw [if_neg (by omega), if_neg (by omega), if_pos (by omega)]
      | rw [if_neg (by omega), if_neg (by omega), if_neg (by omega)]
  · skip
    refine zA_gets (q := zst2) dX12_eastOf_12 zst2_in gX12_408 ?_
    refine zA_iload_n dX12_eastOf_15 rfl ?_
    refine zA_sload (q := zst2) dX12_eastOf_16 zst2_in rfl (by first | assumption | omega) (by first | assumption | (show _ < (4 : Int); omega)) (by decide) ?_
    refine zA_goto (tgt := 53) dX12_eastOf_17 (by decide) ?_
    refine zA_iret dX12_eastOf_53 rfl ?_
    refine zRt_i ?_
    rw [east_ok h0 h1]
    first
    | rw [if_pos (by omega)]
    | rw [if_neg (by omega), if_pos (by omega)]
    | rw [if_neg (by omega), if_neg (by omega), if_pos (by omega)]
    | rw [if_neg (by omega), if_neg (by omega), if_neg (by omega)]

set_option maxRecDepth 100000 in
set_option maxHeartbeats 4000000 in
theorem m_northOf {l : Launch} {w : zW} {S : zS} {b : Int} (h0 : 0 ≤ b) (h1 : b < 16) : zSp l mX12_northOf false 2 0 0 [zI b] S w (zRt (some (zI (zsv1 b))) S w) zNo := by
  refine zA_intro ⟨plainFor_of_name (by decide +kernel), Or.inl (by decide +kernel)⟩ rfl (Nat.le_of_ble_eq_true rfl) ?_
  refine zA_range (fun hr => ?_)
  show zA l mX12_northOf false 2 0 0 (zRt (some (zI (zsv1 b))) S w) zNo 0 [zI b] [] S w
  refine zA_iload_n dX12_northOf_0 rfl ?_
  refine zA_bipush dX12_northOf_1 rfl ?_
  refine zA_iadd dX12_northOf_3 ?_
  refine zA_bipush dX12_northOf_4 rfl ?_
  refine zA_irem dX12_northOf_6 (by first | assumption | omega) (by first | assumption | omega) (by first | assumption | omega) (by first | assumption | omega) ?_
  refine zA_cS (st := []) dX12_northOf_7 sX12_eastOf kX12_414 (m_eastOf (w := w) (S := S) (b := (b + 12) % 16) (by omega) (by omega)) (by decide) rfl rfl (Nat.le_of_ble_eq_true rfl) (zRt_el ?_)
  show zA l mX12_northOf false 2 0 0 (zRt (some (zI (zsv1 b))) S w) zNo 10 [zI b] [zI (zsv0 ((b + 12) % 16))] S w
  refine zA_iret dX12_northOf_10 rfl ?_
  exact zRt_i (north_ok h0 h1)

set_option maxRecDepth 100000 in
set_option maxHeartbeats 4000000 in
theorem m_isInside {l : Launch} {w : zW} {S : zS} {a b : Int} (a0 : 0 ≤ a) (a1 : a < 16) (b0 : 0 ≤ b) (b1 : b < 16) {x y : Int} (hC : okC x y)  : zSp l mX12_isInside false 3 0 0 [zI a, zI b, zI x, zI y] S w (zRt (some (zI (if ins a b x y then 1 else 0))) S w) zNo := by
  refine zA_intro ⟨plainFor_of_name (by decide +kernel), Or.inl (by decide +kernel)⟩ rfl (Nat.le_of_ble_eq_true rfl) ?_
  have ha := zsv_b a0 a1
  have hb := zsv_b b0 b1
  obtain ⟨⟨hx1, hx2⟩, hy1, hy2⟩ := id hC
  have m1 := zmulA (x := zsv0 b - zsv0 a) (y := y - zsv1 a) (A := 200) (B := 200) (by omega) (by omega) (by omega) (by omega)
  have m2 := zmulA (x := zsv1 b - zsv1 a) (y := x - zsv0 a) (A := 200) (B := 200) (by omega) (by omega) (by omega) (by omega)
  have hB : inR ((zsv0 b - zsv0 a) * (y - zsv1 a) - (zsv1 b - zsv1 a) * (x - zsv0 a)) := inR_mk (by omega) (by omega)
  refine zA_range (fun hr => ?_)
  show zA l mX12_isInside false 3 0 0 (zRt (some (zI (if ins a b x y then 1 else 0))) S w) zNo 0 [zI a, zI b, zI x, zI y] [] S w
  refine zA_iload_n dX12_isInside_0 rfl ?_
  refine zA_cS (st := []) dX12_isInside_1 sX12_eastOf kX12_414 (m_eastOf (w := w) (S := S) (b := b) (by omega) (by omega)) (by decide) rfl rfl (Nat.le_of_ble_eq_true rfl) (zRt_el ?_)
  show zA l mX12_isInside false 3 0 0 (zRt (some (zI (if ins a b x y then 1 else 0))) S w) zNo 4 [zI a, zI b, zI x, zI y] [zI (zsv0 b)] S w
  refine zA_iload_n dX12_isInside_4 rfl ?_
  refine zA_cS (st := [zI (zsv0 b)]) dX12_isInside_5 sX12_eastOf kX12_414 (m_eastOf (w := w) (S := S) (b := a) (by omega) (by omega)) (by decide) rfl rfl (Nat.le_of_ble_eq_true rfl) (zRt_el ?_)
  show zA l mX12_isInside false 3 0 0 (zRt (some (zI (if ins a b x y then 1 else 0))) S w) zNo 8 [zI a, zI b, zI x, zI y] [zI (zsv0 a), zI (zsv0 b)] S w
  refine zA_isub dX12_isInside_8 ?_
  refine zA_iload_n dX12_isInside_9 rfl ?_
  refine zA_iload_n dX12_isInside_10 rfl ?_
  refine zA_cS (st := [zI y, zI ((zsv0 b) - (zsv0 a))]) dX12_isInside_11 sX12_northOf kX12_417 (m_northOf (w := w) (S := S) (b := a) (by omega) (by omega)) (by decide) rfl rfl (Nat.le_of_ble_eq_true rfl) (zRt_el ?_)
  show zA l mX12_isInside false 3 0 0 (zRt (some (zI (if ins a b x y then 1 else 0))) S w) zNo 14 [zI a, zI b, zI x, zI y] [zI (zsv1 a), zI y, zI ((zsv0 b) - (zsv0 a))] S w
  refine zA_isub dX12_isInside_14 ?_
  refine zA_imul dX12_isInside_15 ?_
  refine zA_iload_n dX12_isInside_16 rfl ?_
  refine zA_cS (st := [zI (((zsv0 b) - (zsv0 a)) * (y - (zsv1 a)))]) dX12_isInside_17 sX12_northOf kX12_417 (m_northOf (w := w) (S := S) (b := b) (by omega) (by omega)) (by decide) rfl rfl (Nat.le_of_ble_eq_true rfl) (zRt_el ?_)
  show zA l mX12_isInside false 3 0 0 (zRt (some (zI (if ins a b x y then 1 else 0))) S w) zNo 20 [zI a, zI b, zI x, zI y] [zI (zsv1 b), zI (((zsv0 b) - (zsv0 a)) * (y - (zsv1 a)))] S w
  refine zA_iload_n dX12_isInside_20 rfl ?_
  refine zA_cS (st := [zI (zsv1 b), zI (((zsv0 b) - (zsv0 a)) * (y - (zsv1 a)))]) dX12_isInside_21 sX12_northOf kX12_417 (m_northOf (w := w) (S := S) (b := a) (by omega) (by omega)) (by decide) rfl rfl (Nat.le_of_ble_eq_true rfl) (zRt_el ?_)
  show zA l mX12_isInside false 3 0 0 (zRt (some (zI (if ins a b x y then 1 else 0))) S w) zNo 24 [zI a, zI b, zI x, zI y] [zI (zsv1 a), zI (zsv1 b), zI (((zsv0 b) - (zsv0 a)) * (y - (zsv1 a)))] S w
  refine zA_isub dX12_isInside_24 ?_
  refine zA_iload_n dX12_isInside_25 rfl ?_
  refine zA_iload_n dX12_isInside_26 rfl ?_
  refine zA_cS (st := [zI x, zI ((zsv1 b) - (zsv1 a)), zI (((zsv0 b) - (zsv0 a)) * (y - (zsv1 a)))]) dX12_isInside_27 sX12_eastOf kX12_414 (m_eastOf (w := w) (S := S) (b := a) (by omega) (by omega)) (by decide) rfl rfl (Nat.le_of_ble_eq_true rfl) (zRt_el ?_)
  show zA l mX12_isInside false 3 0 0 (zRt (some (zI (if ins a b x y then 1 else 0))) S w) zNo 30 [zI a, zI b, zI x, zI y] [zI (zsv0 a), zI x, zI ((zsv1 b) - (zsv1 a)), zI (((zsv0 b) - (zsv0 a)) * (y - (zsv1 a)))] S w
  refine zA_isub dX12_isInside_30 ?_
  refine zA_imul dX12_isInside_31 ?_
  refine zA_isub dX12_isInside_32 ?_
  refine zA_if_le (tgt := 40) dX12_isInside_33 (by decide) (by first | assumption | exact hr _ _ | exact inR_mk (by omega) (by omega)) (fun c33 => ?_) (fun c33 => ?_)
  · skip
    refine zA_iconst dX12_isInside_40 ?_
    refine zA_zret dX12_isInside_41 rfl (Or.inl rfl) ?_
    exact zRt_i (by first | rw [if_pos c33] | rw [if_neg (Int.not_lt.mpr c33)])
  · skip
    refine zA_iconst dX12_isInside_36 ?_
    refine zA_goto (tgt := 41) dX12_isInside_37 (by decide) ?_
    refine zA_zret dX12_isInside_41 rfl (Or.inr rfl) ?_
    exact zRt_i (by first | rw [if_pos c33] | rw [if_neg (Int.not_lt.mpr c33)])

set_option maxRecDepth 100000 in
set_option maxHeartbeats 4000000 in
theorem m_bitsOf {l : Launch} {w : zW} {S : zS} {s : Int} (s0 : 0 ≤ s) (s1 : s < 65536) : zSp l mX12_bitsOf false 1 0 0 [zI s] S w (zRt (some (zI (popc s))) S w) zNo := by
  refine zA_intro ⟨plainFor_of_name (by decide +kernel), Or.inl (by decide +kernel)⟩ rfl (Nat.le_of_ble_eq_true rfl) ?_
  refine zA_range (fun hr => ?_)
  show zA l mX12_bitsOf false 1 0 0 (zRt (some (zI (popc s))) S w) zNo 0 [zI s, .null, .null] [] S w
  refine zA_iconst dX12_bitsOf_0 ?_
  refine zA_istore_n (lo1 := [zI s, zI 0, .null]) dX12_bitsOf_1 (by decide) rfl rfl ?_
  refine zA_iconst dX12_bitsOf_2 ?_
  refine zA_istore_n (lo1 := [zI s, zI 0, zI 0]) dX12_bitsOf_3 (by decide) rfl rfl ?_
  have L4 : ∀ (z4 : Nat) (m k : Int) (k0 : 0 ≤ k) (k1 : k ≤ 16) (hm : m = zsum k.toNat (fun j => if tb s j = true then 1 else 0)) (zm : (16 - k).toNat < z4), zA l mX12_bitsOf false 1 0 0 (zRt (some (zI (popc s))) S w) zNo 4 [zI s, zI m, zI k] [] S w := by
    intro z4
    induction z4 with
    | zero => intro m k k0 k1 hm zm; exact absurd zm (Nat.not_lt_zero _)
    | succ z4 ih4 =>
      intro m k k0 k1 hm zm
      refine zA_iload_n dX12_bitsOf_4 rfl ?_
      refine zA_bipush dX12_bitsOf_5 rfl ?_
      refine zA_icmp_ge (tgt := 24) dX12_bitsOf_7 (by decide) (by first | assumption | exact hr _ _ | exact inR_mk (by omega) (by omega)) ⟨by decide, by decide⟩ (fun c7 => ?_) (fun c7 => ?_)
      · skip
        refine zA_iload_n dX12_bitsOf_24 rfl ?_
        refine zA_iret dX12_bitsOf_25 rfl ?_
        exact zRt_i (by rw [hm, show k = 16 by omega]; rfl)
      · skip
        refine zA_iload_n dX12_bitsOf_10 rfl ?_
        refine zA_iload_n dX12_bitsOf_11 rfl ?_
        refine zA_iload_n dX12_bitsOf_12 rfl ?_
        refine zA_ishr dX12_bitsOf_13 ?_
        refine zA_iconst dX12_bitsOf_14 ?_
        refine zA_iand dX12_bitsOf_15 ?_
        refine zA_valI (if tb s k = true then 1 else 0) (tb_get s0 (by omega) k0 (by omega)) ?_
        refine zA_iadd dX12_bitsOf_16 ?_
        refine zA_istore_n (lo1 := [zI s, zI (m + (if tb s k = true then 1 else 0)), zI k]) dX12_bitsOf_17 (by decide) rfl rfl ?_
        refine zA_iinc (lo1 := [zI s, zI (m + (if tb s k = true then 1 else 0)), zI (k + 1)]) dX12_bitsOf_18 rfl (by decide) rfl rfl ?_
        refine zA_goto (tgt := 4) dX12_bitsOf_21 (by decide) ?_
        exact ih4 _ (k + 1) (by omega) (by omega) (by rw [zsucc k0]; simp only [zsum]; rw [zcast k0, hm]) (by omega)
  exact L4 _ 0 0 (by omega) (by omega) rfl (Nat.lt_succ_self _)

set_option maxRecDepth 100000 in
set_option maxHeartbeats 4000000 in
theorem m_nextOf {l : Launch} {w : zW} {S : zS} {s a : Int} (s0 : 0 ≤ s) (s1 : s < 65536) (a0 : 0 ≤ a) (a1 : a < 16) (ha : tb s a = true) : zSp l mX12_nextOf false 1 0 0 [zI s, zI a] S w (zRp1 (fun r => (0 ≤ r ∧ r < 16) ∧ nxt s a r) S w) zNo := by
  refine zA_intro ⟨plainFor_of_name (by decide +kernel), Or.inl (by decide +kernel)⟩ rfl (Nat.le_of_ble_eq_true rfl) ?_
  refine zA_range (fun hr => ?_)
  show zA l mX12_nextOf false 1 0 0 (zRp1 (fun r => (0 ≤ r ∧ r < 16) ∧ nxt s a r) S w) zNo 0 [zI s, zI a, .null] [] S w
  refine zA_iload_n dX12_nextOf_0 rfl ?_
  refine zA_iconst dX12_nextOf_1 ?_
  refine zA_iadd dX12_nextOf_2 ?_
  refine zA_bipush dX12_nextOf_3 rfl ?_
  refine zA_irem dX12_nextOf_5 (by first | assumption | omega) (by first | assumption | omega) (by first | assumption | omega) (by first | assumption | omega) ?_
  refine zA_istore_n (lo1 := [zI s, zI a, zI ((a + 1) % 16)]) dX12_nextOf_6 (by decide) rfl rfl ?_
  have L7 : ∀ (z7 : Nat) (k : Int) (k0 : 0 ≤ k) (k1 : k < 16) (hk : (a < k ∧ ∀ j, a < j → j < k → tb s j = false) ∨ (k ≤ a ∧ (∀ j, a < j → j < 16 → tb s j = false) ∧ ∀ j, 0 ≤ j → j < k → tb s j = false)) (zm : ((a - k) % 16).toNat < z7), zA l mX12_nextOf false 1 0 0 (zRp1 (fun r => (0 ≤ r ∧ r < 16) ∧ nxt s a r) S w) zNo 7 [zI s, zI a, zI k] [] S w := by
    intro z7
    induction z7 with
    | zero => intro k k0 k1 hk zm; exact absurd zm (Nat.not_lt_zero _)
    | succ z7 ih7 =>
      intro k k0 k1 hk zm
      refine zA_iload_n dX12_nextOf_7 rfl ?_
      refine zA_iload_n dX12_nextOf_8 rfl ?_
      refine zA_ishr dX12_nextOf_9 ?_
      refine zA_iconst dX12_nextOf_10 ?_
      refine zA_iand dX12_nextOf_11 ?_
      refine zA_valI (if tb s k = true then 1 else 0) (tb_get s0 (by omega) k0 (by omega)) ?_
      refine zA_if_ne (tgt := 25) dX12_nextOf_12 (by decide) (inR_ite _) (fun c12 => ?_) (fun c12 => ?_)
      · skip
        replace c12 := zite_ne c12
        refine zA_iload_n dX12_nextOf_25 rfl ?_
        refine zA_iret dX12_nextOf_26 rfl ?_
        exact ⟨⟨_, rfl, ⟨k0, k1⟩, c12, hk⟩, rfl, rfl⟩
      · skip
        replace c12 := zite_eq c12
        refine zA_iload_n dX12_nextOf_15 rfl ?_
        refine zA_iconst dX12_nextOf_16 ?_
        refine zA_iadd dX12_nextOf_17 ?_
        refine zA_bipush dX12_nextOf_18 rfl ?_
        refine zA_irem dX12_nextOf_20 (by first | assumption | omega) (by first | assumption | omega) (by first | assumption | omega) (by first | assumption | omega) ?_
        refine zA_istore_n (lo1 := [zI s, zI a, zI ((k + 1) % 16)]) dX12_nextOf_21 (by decide) rfl rfl ?_
        refine zA_goto (tgt := 7) dX12_nextOf_22 (by decide) ?_
        exact ih7 ((k + 1) % 16) (by omega) (by omega) (by
                    have hkf : tb s k = false := by simpa using c12
                    have hne : k ≠ a := fun e => by rw [e] at hkf; rw [hkf] at ha; cases ha
                    rcases hk with ⟨h1, h2⟩ | ⟨h1, h2, h3⟩
                    · by_cases h15 : k = 15
                      · exact Or.inr ⟨by omega, fun j p q => (by
                          by_cases hj : j = k
                          · rw [hj]; exact hkf
                          · exact h2 j p (by omega)), fun j p q => by omega⟩
                      · exact Or.inl ⟨by omega, fun j p q => (by
                          by_cases hj : j = k
                          · rw [hj]; exact hkf
                          · exact h2 j p (by omega))⟩
                    · exact Or.inr ⟨by omega, h2, fun j p q => (by
                        by_cases hj : j = k
                        · rw [hj]; exact hkf
                        · exact h3 j p (by omega))⟩) (by
                    have hkf : tb s k = false := by simpa using c12
                    have hne : k ≠ a := fun e => by rw [e] at hkf; rw [hkf] at ha; cases ha
                    omega)
  exact L7 _ ((a + 1) % 16) (by omega) (by omega) (by
          by_cases h15 : a = 15
          · exact Or.inr ⟨by omega, fun j p q => by omega, fun j p q => by omega⟩
          · exact Or.inl ⟨by omega, fun j p q => by omega⟩) (Nat.lt_succ_self _)

def inAll (s u x y : Int) : Prop := ∀ a b : Int, 0 ≤ a → a < 16 → 0 ≤ b → b < 16 → a ≠ u → tb s a = true → nxt s a b → ins a b x y
set_option maxRecDepth 100000 in
set_option maxHeartbeats 4000000 in
theorem m_isInsideAll {l : Launch} {t dr tx : Nat} {w : zW} {s u : Int} (s0 : 0 ≤ s) (s1 : s < 65536) (u0 : -1 ≤ u) (u1 : u < 16) {x y : Int} (hC : okC x y)  : zSp l mX12_isInsideAll false 4 0 0 [zI s, zI u, zI x, zI y] (ZZ t dr tx) w (zRp1 (isB (inAll s u x y)) (ZZ t dr tx) w) zNo := by
  refine zA_intro ⟨plainFor_of_name (by decide +kernel), Or.inl (by decide +kernel)⟩ rfl (Nat.le_of_ble_eq_true rfl) ?_
  refine zA_range (fun hr => ?_)
  show zA l mX12_isInsideAll false 4 0 0 (zRp1 (isB (inAll s u x y)) (ZZ t dr tx) w) zNo 0 [zI s, zI u, zI x, zI y, .null] [] (ZZ t dr tx) w
  refine zA_iconst dX12_isInsideAll_0 ?_
  refine zA_istore (lo1 := [zI s, zI u, zI x, zI y, zI 0]) dX12_isInsideAll_1 (by decide) rfl rfl ?_
  have L3 : ∀ (z3 : Nat) (k : Int) (k0 : 0 ≤ k) (k1 : k ≤ 16) (hk : ∀ a b : Int, 0 ≤ a → a < k → 0 ≤ b → b < 16 → a ≠ u → tb s a = true → nxt s a b → ins a b x y) (zm : (16 - k).toNat < z3), zA l mX12_isInsideAll false 4 0 0 (zRp1 (isB (inAll s u x y)) (ZZ t dr tx) w) zNo 3 [zI s, zI u, zI x, zI y, zI k] [] (ZZ t dr tx) w := by
    intro z3
    induction z3 with
    | zero => intro k k0 k1 hk zm; exact absurd zm (Nat.not_lt_zero _)
    | succ z3 ih3 =>
      intro k k0 k1 hk zm
      refine zA_iload dX12_isInsideAll_3 rfl ?_
      refine zA_bipush dX12_isInsideAll_5 rfl ?_
      refine zA_icmp_ge (tgt := 50) dX12_isInsideAll_7 (by decide) (by first | assumption | exact hr _ _ | exact inR_mk (by omega) (by omega)) ⟨by decide, by decide⟩ (fun c7 => ?_) (fun c7 => ?_)
      · skip
        refine zA_iconst dX12_isInsideAll_50 ?_
        refine zA_zret dX12_isInsideAll_51 rfl (Or.inr rfl) ?_
        exact ⟨⟨_, rfl, Or.inl ⟨rfl, fun a b a0 a1 => hk a b a0 (by omega)⟩⟩, rfl, rfl⟩
      · skip
        refine zA_iload_n dX12_isInsideAll_10 rfl ?_
        refine zA_iload dX12_isInsideAll_11 rfl ?_
        refine zA_ishr dX12_isInsideAll_13 ?_
        refine zA_iconst dX12_isInsideAll_14 ?_
        refine zA_iand dX12_isInsideAll_15 ?_
        refine zA_valI (if tb s k = true then 1 else 0) (tb_get s0 (by omega) k0 (by omega)) ?_
        refine zA_iconst dX12_isInsideAll_16 ?_
        refine zA_icmp_ne (tgt := 44) dX12_isInsideAll_17 (by decide) (inR_ite _) ⟨by decide, by decide⟩ (fun c17 => ?_) (fun c17 => ?_)
        · skip
          refine zA_iinc (lo1 := [zI s, zI u, zI x, zI y, zI (k + 1)]) dX12_isInsideAll_44 rfl (by decide) rfl rfl ?_
          refine zA_goto (tgt := 3) dX12_isInsideAll_47 (by decide) ?_
          exact ih3 (k + 1) (by omega) (by omega) (fun a b a0 a1 b0 b1 hu ta hx => by
                      by_cases hak : a = k
                      · first
                        | (exfalso; rw [hak] at ta; exact c17 (by rw [if_pos ta]))
                        | (exfalso; exact hu (by omega))
                        | (rw [hak] at hx ⊢; rw [nxt_u b0 b1 hnx.1.1 hnx.1.2 hx hnx.2]; exact c39)
                      · exact hk a b a0 (by omega) b0 b1 hu ta hx) (by omega)
        · skip
          have htk : tb s k = true := by
            by_cases h : tb s k = true
            · exact h
            · rw [if_neg h] at c17; exact absurd c17 (by decide)
          refine zA_iload dX12_isInsideAll_20 rfl ?_
          refine zA_iload_n dX12_isInsideAll_22 rfl ?_
          refine zA_icmp_eq (tgt := 44) dX12_isInsideAll_23 (by decide) (by first | assumption | exact hr _ _ | exact inR_mk (by omega) (by omega)) (by first | assumption | exact hr _ _ | exact inR_mk (by omega) (by omega)) (fun c23 => ?_) (fun c23 => ?_)
          · skip
            refine zA_iinc (lo1 := [zI s, zI u, zI x, zI y, zI (k + 1)]) dX12_isInsideAll_44 rfl (by decide) rfl rfl ?_
            refine zA_goto (tgt := 3) dX12_isInsideAll_47 (by decide) ?_
            exact ih3 (k + 1) (by omega) (by omega) (fun a b a0 a1 b0 b1 hu ta hx => by
                        by_cases hak : a = k
                        · first
                          | (exfalso; rw [hak] at ta; exact c17 (by rw [if_pos ta]))
                          | (exfalso; exact hu (by omega))
                          | (rw [hak] at hx ⊢; rw [nxt_u b0 b1 hnx.1.1 hnx.1.2 hx hnx.2]; exact c39)
                        · exact hk a b a0 (by omega) b0 b1 hu ta hx) (by omega)
          · skip
            refine zA_iload dX12_isInsideAll_26 rfl ?_
            refine zA_iload_n dX12_isInsideAll_28 rfl ?_
            refine zA_iload dX12_isInsideAll_29 rfl ?_
            refine zA_cS (st := [zI k]) dX12_isInsideAll_31 sX12_nextOf kX12_420 (m_nextOf (w := w) (S := (ZZ t dr tx)) (s := s) (a := k) s0 s1 k0 (by omega) htk) (by decide) rfl rfl (Nat.le_of_ble_eq_true rfl) (zRp1_el (fun nx hnx => ?_))
            obtain ⟨⟨nx0, nx1⟩, -⟩ := id hnx
            refine zA_iload_n dX12_isInsideAll_34 rfl ?_
            refine zA_iload_n dX12_isInsideAll_35 rfl ?_
            refine zA_cS (st := []) dX12_isInsideAll_36 sX12_isInside kX12_423 (m_isInside (w := w) (S := (ZZ t dr tx)) (a := k) (b := nx) (x := x) (y := y) k0 (by omega) nx0 nx1 hC) (by decide) rfl rfl (Nat.le_of_ble_eq_true rfl) (zRt_el ?_)
            show zA l mX12_isInsideAll false 4 0 0 (zRp1 (isB (inAll s u x y)) (ZZ t dr tx) w) zNo 39 [zI s, zI u, zI x, zI y, zI k] [zI (if ins k nx x y then 1 else 0)] (ZZ t dr tx) w
            refine zA_if_ne (tgt := 44) dX12_isInsideAll_39 (by decide) (inR_ite _) (fun c39 => ?_) (fun c39 => ?_)
            · skip
              replace c39 := zite_ne c39
              refine zA_iinc (lo1 := [zI s, zI u, zI x, zI y, zI (k + 1)]) dX12_isInsideAll_44 rfl (by decide) rfl rfl ?_
              refine zA_goto (tgt := 3) dX12_isInsideAll_47 (by decide) ?_
              exact ih3 (k + 1) (by omega) (by omega) (fun a b a0 a1 b0 b1 hu ta hx => by
                          by_cases hak : a = k
                          · first
                            | (exfalso; rw [hak] at ta; exact c17 (by rw [if_pos ta]))
                            | (exfalso; exact hu (by omega))
                            | (rw [hak] at hx ⊢; rw [nxt_u b0 b1 hnx.1.1 hnx.1.2 hx hnx.2]; exact c39)
                          · exact hk a b a0 (by omega) b0 b1 hu ta hx) (by omega)
            · skip
              replace c39 := zite_eq c39
              refine zA_iconst dX12_isInsideAll_42 ?_
              refine zA_zret dX12_isInsideAll_43 rfl (Or.inl rfl) ?_
              exact ⟨⟨_, rfl, Or.inr ⟨rfl, fun h => c39 (h k nx k0 (by omega) nx0 nx1 c23 htk hnx.2)⟩⟩, rfl, rfl⟩
  exact L3 _ 0 (by omega) (by omega) (fun a b a0 a1 => by omega) (Nat.lt_succ_self _)

set_option maxRecDepth 100000 in
set_option maxHeartbeats 4000000 in
theorem m_standsOn {l : Launch} {t dr tx : Nat} {w : zW} {s : Int} (s0 : 0 ≤ s) (s1 : s < 65536) {x y : Int} (hC : okC x y)  : zSp l mX12_standsOn false 5 0 0 [zI s, zI x, zI y] (ZZ t dr tx) w (zRp1 (isB (stOn s x y)) (ZZ t dr tx) w) zNo := by
  refine zA_intro ⟨plainFor_of_name (by decide +kernel), Or.inl (by decide +kernel)⟩ rfl (Nat.le_of_ble_eq_true rfl) ?_
  refine zA_range (fun hr => ?_)
  show zA l mX12_standsOn false 5 0 0 (zRp1 (isB (stOn s x y)) (ZZ t dr tx) w) zNo 0 [zI s, zI x, zI y] [] (ZZ t dr tx) w
  refine zA_iload_n dX12_standsOn_0 rfl ?_
  refine zA_cS (st := []) dX12_standsOn_1 sX12_bitsOf kX12_393 (m_bitsOf (w := w) (S := (ZZ t dr tx)) (s := s) s0 s1) (by decide) rfl rfl (Nat.le_of_ble_eq_true rfl) (zRt_el ?_)
  show zA l mX12_standsOn false 5 0 0 (zRp1 (isB (stOn s x y)) (ZZ t dr tx) w) zNo 4 [zI s, zI x, zI y] [zI (popc s)] (ZZ t dr tx) w
  have hpb := popc_b s
  refine zA_iconst dX12_standsOn_4 ?_
  refine zA_icmp_lt (tgt := 22) dX12_standsOn_5 (by decide) (by first | assumption | exact hr _ _ | exact inR_mk (by omega) (by omega)) ⟨by decide, by decide⟩ (fun c5 => ?_) (fun c5 => ?_)
  · skip
    refine zA_iconst dX12_standsOn_22 ?_
    refine zA_zret dX12_standsOn_23 rfl (Or.inl rfl) ?_
    first
    | exact ⟨⟨_, rfl, Or.inr ⟨rfl, fun h => isB_eq hia c15 (fun a b a0 a1 b0 b1 _ ta hx => h.2 a b a0 a1 b0 b1 ta hx)⟩⟩, rfl, rfl⟩
    | exact ⟨⟨_, rfl, Or.inr ⟨rfl, fun h => by have := h.1; omega⟩⟩, rfl, rfl⟩
  · skip
    refine zA_iload_n dX12_standsOn_8 rfl ?_
    refine zA_iconst dX12_standsOn_9 ?_
    refine zA_iload_n dX12_standsOn_10 rfl ?_
    refine zA_iload_n dX12_standsOn_11 rfl ?_
    refine zA_cS (st := []) dX12_standsOn_12 sX12_isInsideAll kX12_427 (m_isInsideAll (w := w) (s := s) (u := -1) (x := x) (y := y) s0 s1 (by omega) (by omega) hC) (by decide) rfl rfl (Nat.le_of_ble_eq_true rfl) (zRp1_el (fun ia hia => ?_))
    have hir := isB_R hia
    refine zA_if_eq (tgt := 22) dX12_standsOn_15 (by decide) (by first | assumption | exact hr _ _ | exact inR_mk (by omega) (by omega)) (fun c15 => ?_) (fun c15 => ?_)
    · skip
      refine zA_iconst dX12_standsOn_22 ?_
      refine zA_zret dX12_standsOn_23 rfl (Or.inl rfl) ?_
      first
      | exact ⟨⟨_, rfl, Or.inr ⟨rfl, fun h => isB_eq hia c15 (fun a b a0 a1 b0 b1 _ ta hx => h.2 a b a0 a1 b0 b1 ta hx)⟩⟩, rfl, rfl⟩
      | exact ⟨⟨_, rfl, Or.inr ⟨rfl, fun h => by have := h.1; omega⟩⟩, rfl, rfl⟩
    · skip
      refine zA_iconst dX12_standsOn_18 ?_
      refine zA_goto (tgt := 23) dX12_standsOn_19 (by decide) ?_
      refine zA_zret dX12_standsOn_23 rfl (Or.inr rfl) ?_
      exact ⟨⟨_, rfl, Or.inl ⟨rfl, by omega, fun a b a0 a1 b0 b1 ta hx => isB_ne hia c15 a b a0 a1 b0 b1 (by omega) ta hx⟩⟩, rfl, rfl⟩

set_option maxRecDepth 100000 in
set_option maxHeartbeats 4000000 in
theorem m_isCentre {l : Launch} {w : zW} {S : zS} {x y : Int} (hx : inR x) (hy : inR y) : zSp l mX12_isCentre false 2 0 0 [zI x, zI y] S w (zRt (some (zI (if okC x y then 1 else 0))) S w) zNo := by
  refine zA_intro ⟨plainFor_of_name (by decide +kernel), Or.inl (by decide +kernel)⟩ rfl (Nat.le_of_ble_eq_true rfl) ?_
  refine zA_range (fun hr => ?_)
  show zA l mX12_isCentre false 2 0 0 (zRt (some (zI (if okC x y then 1 else 0))) S w) zNo 0 [zI x, zI y] [] S w
  refine zA_iload_n dX12_isCentre_0 rfl ?_
  refine zA_bipush dX12_isCentre_1 rfl ?_
  refine zA_bipush dX12_isCentre_3 rfl ?_
  refine zA_cS (st := []) dX12_isCentre_5 sX12_isIn kX12_185 (m_isIn (w := w) (a := x) (b := (-95)) (e := 95) (by first | assumption | exact hr _ _ | exact inR_mk (by omega) (by omega)) ⟨by decide, by decide⟩ ⟨by decide, by decide⟩) (by decide) rfl rfl (Nat.le_of_ble_eq_true rfl) (zRt_el ?_)
  show zA l mX12_isCentre false 2 0 0 (zRt (some (zI (if okC x y then 1 else 0))) S w) zNo 8 [zI x, zI y] [zI (if (-95) ≤ x ∧ x ≤ 95 then 1 else 0)] S w
  refine zA_if_eq (tgt := 26) dX12_isCentre_8 (by decide) (inR_ite _) (fun c8 => ?_) (fun c8 => ?_)
  · skip
    replace c8 := zite_eq c8
    refine zA_iconst dX12_isCentre_26 ?_
    refine zA_zret dX12_isCentre_27 rfl (Or.inl rfl) ?_
    exact zRt_i (by first | rw [if_pos ⟨by omega, by omega⟩] | rw [if_neg (fun h => by obtain ⟨a, b⟩ := h; omega)])
  · skip
    replace c8 := zite_ne c8
    refine zA_iload_n dX12_isCentre_11 rfl ?_
    refine zA_bipush dX12_isCentre_12 rfl ?_
    refine zA_bipush dX12_isCentre_14 rfl ?_
    refine zA_cS (st := []) dX12_isCentre_16 sX12_isIn kX12_185 (m_isIn (w := w) (a := y) (b := (-95)) (e := 95) (by first | assumption | exact hr _ _ | exact inR_mk (by omega) (by omega)) ⟨by decide, by decide⟩ ⟨by decide, by decide⟩) (by decide) rfl rfl (Nat.le_of_ble_eq_true rfl) (zRt_el ?_)
    show zA l mX12_isCentre false 2 0 0 (zRt (some (zI (if okC x y then 1 else 0))) S w) zNo 19 [zI x, zI y] [zI (if (-95) ≤ y ∧ y ≤ 95 then 1 else 0)] S w
    refine zA_if_eq (tgt := 26) dX12_isCentre_19 (by decide) (inR_ite _) (fun c19 => ?_) (fun c19 => ?_)
    · skip
      replace c19 := zite_eq c19
      refine zA_iconst dX12_isCentre_26 ?_
      refine zA_zret dX12_isCentre_27 rfl (Or.inl rfl) ?_
      exact zRt_i (by first | rw [if_pos ⟨by omega, by omega⟩] | rw [if_neg (fun h => by obtain ⟨a, b⟩ := h; omega)])
    · skip
      replace c19 := zite_ne c19
      refine zA_iconst dX12_isCentre_22 ?_
      refine zA_goto (tgt := 27) dX12_isCentre_23 (by decide) ?_
      refine zA_zret dX12_isCentre_27 rfl (Or.inr rfl) ?_
      exact zRt_i (by first | rw [if_pos ⟨by omega, by omega⟩] | rw [if_neg (fun h => by obtain ⟨a, b⟩ := h; omega)])

theorem inAll_B {lf k n x y : Int} (k0 : 0 ≤ k) (k1 : k < 16) (n0 : 1 ≤ n) (n1 : n ≤ 12) (hl : ∀ b : Int, 0 ≤ b → b < 16 → (tb lf b = true ↔ n ≤ (b - k) % 16)) : inAll lf ((k + 15) % 16) x y ↔ ¬ flB k n x y := by
  have hnx : ∀ a : Int, 0 ≤ a → a < 16 → n ≤ (a - k) % 16 → a ≠ (k + 15) % 16 → nxt lf a ((a + 1) % 16) := by
    intro a a0 a1 h1 h2
    refine ⟨(hl _ (by omega) (by omega)).mpr (by omega), ?_⟩
    by_cases h15 : a = 15
    · exact Or.inr ⟨by omega, fun j p q => by omega, fun j p q => by omega⟩
    · exact Or.inl ⟨by omega, fun j p q => by omega⟩
  constructor
  · rintro h ⟨i, ⟨i1, i2⟩, hn⟩
    have hx := hnx ((k + i) % 16) (by omega) (by omega) (by omega) (by omega)
    rw [show ((k + i) % 16 + 1) % 16 = (k + i + 1) % 16 by omega] at hx
    exact hn (h _ _ (by omega) (by omega) (by omega) (by omega) (by omega) ((hl _ (by omega) (by omega)).mpr (by omega)) hx)
  · intro h a b a0 a1 b0 b1 hu ta hx
    have h1 := (hl a a0 a1).mp ta
    rw [nxt_u b0 b1 (by omega) (by omega) hx (hnx a a0 a1 h1 hu)]
    by_cases hI : ins a ((a + 1) % 16) x y
    · exact hI
    · exfalso
      refine h ⟨(a - k) % 16, ⟨h1, by omega⟩, ?_⟩
      rw [show (k + (a - k) % 16) % 16 = a by omega, show (k + (a - k) % 16 + 1) % 16 = (a + 1) % 16 by omega]
      exact hI
set_option maxRecDepth 100000 in
set_option maxHeartbeats 4000000 in
theorem m_cutOf {l : Launch} {t dr tx : Nat} {w : zW} {x y : Int} (hC : okC x y) {k n : Int} (k0 : 0 ≤ k) (k1 : k < 16) (n0 : 1 ≤ n) (n1 : n ≤ 12) : zSp l mX12_cutOf false 6 0 0 [zR 73, zI k, zI n, zI x, zI y] (ZZ t dr tx) w (zRp1 (flR k n x y) (ZZ t dr tx) w) zNo := by
  refine zA_intro ⟨plainFor_of_name (by decide +kernel), Or.inl (by decide +kernel)⟩ rfl (Nat.le_of_ble_eq_true rfl) ?_
  refine zA_range (fun hr => ?_)
  show zA l mX12_cutOf false 6 0 0 (zRp1 (flR k n x y) (ZZ t dr tx) w) zNo 0 [zR 73, zI k, zI n, zI x, zI y, .null, .null, .null, .null, .null, .null, .null] [] (ZZ t dr tx) w
  refine zA_ldcw dX12_cutOf_0 qX12_433 ?_
  refine zA_istore (lo1 := [zR 73, zI k, zI n, zI x, zI y, zI 65535, .null, .null, .null, .null, .null, .null]) dX12_cutOf_3 (by decide) rfl rfl ?_
  refine zA_iconst dX12_cutOf_5 ?_
  refine zA_istore (lo1 := [zR 73, zI k, zI n, zI x, zI y, zI 65535, zI 0, .null, .null, .null, .null, .null]) dX12_cutOf_6 (by decide) rfl rfl ?_
  have L8 : ∀ (z8 : Nat) (lf i : Int) (i0 : 0 ≤ i) (i1 : i ≤ n) (l0 : 0 ≤ lf) (l1 : lf < 65536) (hl : ∀ b : Int, 0 ≤ b → b < 16 → (tb lf b = true ↔ i ≤ (b - k) % 16)) (hA : ∀ j : Int, 0 ≤ j → j < i → stOn (wo ((k + j) % 16)) x y) (zm : (n - i).toNat < z8), zA l mX12_cutOf false 6 0 0 (zRp1 (flR k n x y) (ZZ t dr tx) w) zNo 8 [zR 73, zI k, zI n, zI x, zI y, zI lf, zI i, .null, .null, .null, .null, .null] [] (ZZ t dr tx) w := by
    intro z8
    induction z8 with
    | zero => intro lf i i0 i1 l0 l1 hl hA zm; exact absurd zm (Nat.not_lt_zero _)
    | succ z8 ih8 =>
      intro lf i i0 i1 l0 l1 hl hA zm
      refine zA_iload dX12_cutOf_8 rfl ?_
      refine zA_iload_n dX12_cutOf_10 rfl ?_
      refine zA_icmp_ge (tgt := 61) dX12_cutOf_11 (by decide) (by first | assumption | exact hr _ _ | exact inR_mk (by omega) (by omega)) (by first | assumption | exact hr _ _ | exact inR_mk (by omega) (by omega)) (fun c11 => ?_) (fun c11 => ?_)
      · skip
        have nA : ¬ flA k n x y := fun ⟨j, ⟨a, b⟩, h⟩ => h (hA j a (by omega))
        have hBi := inAll_B (x := x) (y := y) k0 k1 n0 n1 (lf := lf) (fun b a c => by rw [hl b a c, show i = n by omega])
        refine zA_iload_n dX12_cutOf_61 rfl ?_
        refine zA_bipush dX12_cutOf_62 rfl ?_
        refine zA_iadd dX12_cutOf_64 ?_
        refine zA_iconst dX12_cutOf_65 ?_
        refine zA_isub dX12_cutOf_66 ?_
        refine zA_bipush dX12_cutOf_67 rfl ?_
        refine zA_irem dX12_cutOf_69 (by first | assumption | omega) (by first | assumption | omega) (by first | assumption | omega) (by first | assumption | omega) ?_
        refine zA_valI ((k + 15) % 16) (by omega) ?_
        refine zA_istore (lo1 := [zR 73, zI k, zI n, zI x, zI y, zI lf, zI ((k + 15) % 16), .null, .null, .null, .null, .null]) dX12_cutOf_70 (by decide) rfl rfl ?_
        refine zA_iload_n dX12_cutOf_72 rfl ?_
        refine zA_iload_n dX12_cutOf_73 rfl ?_
        refine zA_iadd dX12_cutOf_74 ?_
        refine zA_bipush dX12_cutOf_75 rfl ?_
        refine zA_irem dX12_cutOf_77 (by first | assumption | omega) (by first | assumption | omega) (by first | assumption | omega) (by first | assumption | omega) ?_
        refine zA_istore (lo1 := [zR 73, zI k, zI n, zI x, zI y, zI lf, zI ((k + 15) % 16), zI ((k + n) % 16), .null, .null, .null, .null]) dX12_cutOf_78 (by decide) rfl rfl ?_
        refine zA_iload dX12_cutOf_80 rfl ?_
        refine zA_iload dX12_cutOf_82 rfl ?_
        refine zA_iload_n dX12_cutOf_84 rfl ?_
        refine zA_iload dX12_cutOf_85 rfl ?_
        refine zA_cS (st := []) dX12_cutOf_87 sX12_isInsideAll kX12_427 (m_isInsideAll (w := w) (s := lf) (u := (k + 15) % 16) (x := x) (y := y) l0 l1 (by omega) (by omega) hC) (by decide) rfl rfl (Nat.le_of_ble_eq_true rfl) (zRp1_el (fun ia hia => ?_))
        have hir := isB_R hia
        refine zA_if_ne (tgt := 96) dX12_cutOf_90 (by decide) (by first | assumption | exact hr _ _ | exact inR_mk (by omega) (by omega)) (fun c90 => ?_) (fun c90 => ?_)
        · skip
          refine zA_iload dX12_cutOf_96 rfl ?_
          refine zA_iload dX12_cutOf_98 rfl ?_
          refine zA_iload_n dX12_cutOf_100 rfl ?_
          refine zA_iload dX12_cutOf_101 rfl ?_
          refine zA_cS (st := []) dX12_cutOf_103 sX12_isInside kX12_423 (m_isInside (w := w) (S := (ZZ t dr tx)) (a := (k + 15) % 16) (b := (k + n) % 16) (x := x) (y := y) (by omega) (by omega) (by omega) (by omega) hC) (by decide) rfl rfl (Nat.le_of_ble_eq_true rfl) (zRt_el ?_)
          show zA l mX12_cutOf false 6 0 0 (zRp1 (flR k n x y) (ZZ t dr tx) w) zNo 106 [zR 73, zI k, zI n, zI x, zI y, zI lf, zI ((k + 15) % 16), zI ((k + n) % 16), .null, .null, .null, .null] [zI (if ins ((k + 15) % 16) ((k + n) % 16) x y then 1 else 0)] (ZZ t dr tx) w
          refine zA_if_eq (tgt := 112) dX12_cutOf_106 (by decide) (inR_ite _) (fun c106 => ?_) (fun c106 => ?_)
          · skip
            replace c106 := zite_eq c106
            refine zA_iload dX12_cutOf_112 rfl ?_
            refine zA_cS (st := []) dX12_cutOf_114 sX12_northOf kX12_417 (m_northOf (w := w) (S := (ZZ t dr tx)) (b := ((k + n) % 16)) (by omega) (by omega)) (by decide) rfl rfl (Nat.le_of_ble_eq_true rfl) (zRt_el ?_)
            show zA l mX12_cutOf false 6 0 0 (zRp1 (flR k n x y) (ZZ t dr tx) w) zNo 117 [zR 73, zI k, zI n, zI x, zI y, zI lf, zI ((k + 15) % 16), zI ((k + n) % 16), .null, .null, .null, .null] [zI (zsv1 ((k + n) % 16))] (ZZ t dr tx) w
            refine zA_iload dX12_cutOf_117 rfl ?_
            refine zA_cS (st := [zI (zsv1 ((k + n) % 16))]) dX12_cutOf_119 sX12_northOf kX12_417 (m_northOf (w := w) (S := (ZZ t dr tx)) (b := ((k + 15) % 16)) (by omega) (by omega)) (by decide) rfl rfl (Nat.le_of_ble_eq_true rfl) (zRt_el ?_)
            show zA l mX12_cutOf false 6 0 0 (zRp1 (flR k n x y) (ZZ t dr tx) w) zNo 122 [zR 73, zI k, zI n, zI x, zI y, zI lf, zI ((k + 15) % 16), zI ((k + n) % 16), .null, .null, .null, .null] [zI (zsv1 ((k + 15) % 16)), zI (zsv1 ((k + n) % 16))] (ZZ t dr tx) w
            refine zA_isub dX12_cutOf_122 ?_
            refine zA_istore (lo1 := [zR 73, zI k, zI n, zI x, zI y, zI lf, zI ((k + 15) % 16), zI ((k + n) % 16), zI ((zsv1 ((k + n) % 16)) - (zsv1 ((k + 15) % 16))), .null, .null, .null]) dX12_cutOf_123 (by decide) rfl rfl ?_
            refine zA_iload dX12_cutOf_125 rfl ?_
            refine zA_cS (st := []) dX12_cutOf_127 sX12_eastOf kX12_414 (m_eastOf (w := w) (S := (ZZ t dr tx)) (b := ((k + 15) % 16)) (by omega) (by omega)) (by decide) rfl rfl (Nat.le_of_ble_eq_true rfl) (zRt_el ?_)
            show zA l mX12_cutOf false 6 0 0 (zRp1 (flR k n x y) (ZZ t dr tx) w) zNo 130 [zR 73, zI k, zI n, zI x, zI y, zI lf, zI ((k + 15) % 16), zI ((k + n) % 16), zI ((zsv1 ((k + n) % 16)) - (zsv1 ((k + 15) % 16))), .null, .null, .null] [zI (zsv0 ((k + 15) % 16))] (ZZ t dr tx) w
            refine zA_iload dX12_cutOf_130 rfl ?_
            refine zA_cS (st := [zI (zsv0 ((k + 15) % 16))]) dX12_cutOf_132 sX12_eastOf kX12_414 (m_eastOf (w := w) (S := (ZZ t dr tx)) (b := ((k + n) % 16)) (by omega) (by omega)) (by decide) rfl rfl (Nat.le_of_ble_eq_true rfl) (zRt_el ?_)
            show zA l mX12_cutOf false 6 0 0 (zRp1 (flR k n x y) (ZZ t dr tx) w) zNo 135 [zR 73, zI k, zI n, zI x, zI y, zI lf, zI ((k + 15) % 16), zI ((k + n) % 16), zI ((zsv1 ((k + n) % 16)) - (zsv1 ((k + 15) % 16))), .null, .null, .null] [zI (zsv0 ((k + n) % 16)), zI (zsv0 ((k + 15) % 16))] (ZZ t dr tx) w
            refine zA_isub dX12_cutOf_135 ?_
            refine zA_istore (lo1 := [zR 73, zI k, zI n, zI x, zI y, zI lf, zI ((k + 15) % 16), zI ((k + n) % 16), zI ((zsv1 ((k + n) % 16)) - (zsv1 ((k + 15) % 16))), zI ((zsv0 ((k + 15) % 16)) - (zsv0 ((k + n) % 16))), .null, .null]) dX12_cutOf_136 (by decide) rfl rfl ?_
            refine zA_iconst dX12_cutOf_138 ?_
            refine zA_istore (lo1 := [zR 73, zI k, zI n, zI x, zI y, zI lf, zI ((k + 15) % 16), zI ((k + n) % 16), zI ((zsv1 ((k + n) % 16)) - (zsv1 ((k + 15) % 16))), zI ((zsv0 ((k + 15) % 16)) - (zsv0 ((k + n) % 16))), zI 0, .null]) dX12_cutOf_139 (by decide) rfl rfl ?_
            refine zA_iconst dX12_cutOf_141 ?_
            refine zA_istore (lo1 := [zR 73, zI k, zI n, zI x, zI y, zI lf, zI ((k + 15) % 16), zI ((k + n) % 16), zI ((zsv1 ((k + n) % 16)) - (zsv1 ((k + 15) % 16))), zI ((zsv0 ((k + 15) % 16)) - (zsv0 ((k + n) % 16))), zI 0, zI 1]) dX12_cutOf_142 (by decide) rfl rfl ?_
            refine zA_drop 5 (lo1 := [zR 73, zI k, zI n, zI x, zI y, .null, zI ((k + 15) % 16), zI ((k + n) % 16), zI ((zsv1 ((k + n) % 16)) - (zsv1 ((k + 15) % 16))), zI ((zsv0 ((k + 15) % 16)) - (zsv0 ((k + n) % 16))), zI 0, zI 1]) rfl ?_
            refine zA_drop 6 (lo1 := [zR 73, zI k, zI n, zI x, zI y, .null, .null, zI ((k + n) % 16), zI ((zsv1 ((k + n) % 16)) - (zsv1 ((k + 15) % 16))), zI ((zsv0 ((k + 15) % 16)) - (zsv0 ((k + n) % 16))), zI 0, zI 1]) rfl ?_
            refine zA_drop 7 (lo1 := [zR 73, zI k, zI n, zI x, zI y, .null, .null, .null, zI ((zsv1 ((k + n) % 16)) - (zsv1 ((k + 15) % 16))), zI ((zsv0 ((k + 15) % 16)) - (zsv0 ((k + n) % 16))), zI 0, zI 1]) rfl ?_
            have L144 : ∀ (z144 : Nat) (bt tt : Int) (k0 : 1 ≤ tt) (k1 : tt ≤ 16) (r0 : 0 ≤ bt) (r1 : bt < tt) (h2 : ∀ j, 0 ≤ j → j < bt → farV (zsv1 ((k + n) % 16) - zsv1 ((k + 15) % 16)) (zsv0 ((k + 15) % 16) - zsv0 ((k + n) % 16)) j < farV (zsv1 ((k + n) % 16) - zsv1 ((k + 15) % 16)) (zsv0 ((k + 15) % 16) - zsv0 ((k + n) % 16)) bt) (h3 : ∀ j, bt < j → j < tt → farV (zsv1 ((k + n) % 16) - zsv1 ((k + 15) % 16)) (zsv0 ((k + 15) % 16) - zsv0 ((k + n) % 16)) j ≤ farV (zsv1 ((k + n) % 16) - zsv1 ((k + 15) % 16)) (zsv0 ((k + 15) % 16) - zsv0 ((k + n) % 16)) bt) (zm : (16 - tt).toNat < z144), zA l mX12_cutOf false 6 0 0 (zRp1 (flR k n x y) (ZZ t dr tx) w) zNo 144 [zR 73, zI k, zI n, zI x, zI y, .null, .null, .null, zI (zsv1 ((k + n) % 16) - zsv1 ((k + 15) % 16)), zI (zsv0 ((k + 15) % 16) - zsv0 ((k + n) % 16)), zI bt, zI tt] [] (ZZ t dr tx) w := by
              intro z144
              induction z144 with
              | zero => intro bt tt k0 k1 r0 r1 h2 h3 zm; exact absurd zm (Nat.not_lt_zero _)
              | succ z144 ih144 =>
                intro bt tt k0 k1 r0 r1 h2 h3 zm
                refine zA_iload dX12_cutOf_144 rfl ?_
                refine zA_bipush dX12_cutOf_146 rfl ?_
                refine zA_icmp_ge (tgt := 198) dX12_cutOf_148 (by decide) (by first | assumption | exact hr _ _ | exact inR_mk (by omega) (by omega)) ⟨by decide, by decide⟩ (fun c148 => ?_) (fun c148 => ?_)
                · skip
                  refine zA_iload dX12_cutOf_198 rfl ?_
                  refine zA_iret dX12_cutOf_200 rfl ?_
                  exact ⟨⟨_, rfl, Or.inr (Or.inr (Or.inr ⟨nA, hBi.mp (isB_ne hia c90), c106, ⟨r0, by omega⟩, h2, fun j a b => h3 j a (by omega)⟩))⟩, rfl, rfl⟩
                · skip
                  have z1 := zsv_b (i := (k + 15) % 16) (by omega) (by omega)
                  have z2 := zsv_b (i := (k + n) % 16) (by omega) (by omega)
                  have hb1 := farV_b (p := (zsv1 ((k + n) % 16) - zsv1 ((k + 15) % 16))) (q := (zsv0 ((k + 15) % 16) - zsv0 ((k + n) % 16))) (by omega) (by omega) (by omega) (by omega) (show 0 ≤ tt by omega) (show tt < 16 by omega)
                  have hb2 := farV_b (p := (zsv1 ((k + n) % 16) - zsv1 ((k + 15) % 16))) (q := (zsv0 ((k + 15) % 16) - zsv0 ((k + n) % 16))) (by omega) (by omega) (by omega) (by omega) r0 (show bt < 16 by omega)
                  refine zA_iload dX12_cutOf_151 rfl ?_
                  refine zA_cS (st := []) dX12_cutOf_153 sX12_eastOf kX12_414 (m_eastOf (w := w) (S := (ZZ t dr tx)) (b := tt) (by omega) (by omega)) (by decide) rfl rfl (Nat.le_of_ble_eq_true rfl) (zRt_el ?_)
                  show zA l mX12_cutOf false 6 0 0 (zRp1 (flR k n x y) (ZZ t dr tx) w) zNo 156 [zR 73, zI k, zI n, zI x, zI y, .null, .null, .null, zI (zsv1 ((k + n) % 16) - zsv1 ((k + 15) % 16)), zI (zsv0 ((k + 15) % 16) - zsv0 ((k + n) % 16)), zI bt, zI tt] [zI (zsv0 tt)] (ZZ t dr tx) w
                  refine zA_iload dX12_cutOf_156 rfl ?_
                  refine zA_imul dX12_cutOf_158 ?_
                  refine zA_iload dX12_cutOf_159 rfl ?_
                  refine zA_cS (st := [zI ((zsv0 tt) * (zsv1 ((k + n) % 16) - zsv1 ((k + 15) % 16)))]) dX12_cutOf_161 sX12_northOf kX12_417 (m_northOf (w := w) (S := (ZZ t dr tx)) (b := tt) (by omega) (by omega)) (by decide) rfl rfl (Nat.le_of_ble_eq_true rfl) (zRt_el ?_)
                  show zA l mX12_cutOf false 6 0 0 (zRp1 (flR k n x y) (ZZ t dr tx) w) zNo 164 [zR 73, zI k, zI n, zI x, zI y, .null, .null, .null, zI (zsv1 ((k + n) % 16) - zsv1 ((k + 15) % 16)), zI (zsv0 ((k + 15) % 16) - zsv0 ((k + n) % 16)), zI bt, zI tt] [zI (zsv1 tt), zI ((zsv0 tt) * (zsv1 ((k + n) % 16) - zsv1 ((k + 15) % 16)))] (ZZ t dr tx) w
                  refine zA_iload dX12_cutOf_164 rfl ?_
                  refine zA_imul dX12_cutOf_166 ?_
                  refine zA_iadd dX12_cutOf_167 ?_
                  refine zA_iload dX12_cutOf_168 rfl ?_
                  refine zA_cS (st := [zI (((zsv0 tt) * (zsv1 ((k + n) % 16) - zsv1 ((k + 15) % 16))) + ((zsv1 tt) * (zsv0 ((k + 15) % 16) - zsv0 ((k + n) % 16))))]) dX12_cutOf_170 sX12_eastOf kX12_414 (m_eastOf (w := w) (S := (ZZ t dr tx)) (b := bt) (by omega) (by omega)) (by decide) rfl rfl (Nat.le_of_ble_eq_true rfl) (zRt_el ?_)
                  show zA l mX12_cutOf false 6 0 0 (zRp1 (flR k n x y) (ZZ t dr tx) w) zNo 173 [zR 73, zI k, zI n, zI x, zI y, .null, .null, .null, zI (zsv1 ((k + n) % 16) - zsv1 ((k + 15) % 16)), zI (zsv0 ((k + 15) % 16) - zsv0 ((k + n) % 16)), zI bt, zI tt] [zI (zsv0 bt), zI (((zsv0 tt) * (zsv1 ((k + n) % 16) - zsv1 ((k + 15) % 16))) + ((zsv1 tt) * (zsv0 ((k + 15) % 16) - zsv0 ((k + n) % 16))))] (ZZ t dr tx) w
                  refine zA_iload dX12_cutOf_173 rfl ?_
                  refine zA_imul dX12_cutOf_175 ?_
                  refine zA_iload dX12_cutOf_176 rfl ?_
                  refine zA_cS (st := [zI ((zsv0 bt) * (zsv1 ((k + n) % 16) - zsv1 ((k + 15) % 16))), zI (((zsv0 tt) * (zsv1 ((k + n) % 16) - zsv1 ((k + 15) % 16))) + ((zsv1 tt) * (zsv0 ((k + 15) % 16) - zsv0 ((k + n) % 16))))]) dX12_cutOf_178 sX12_northOf kX12_417 (m_northOf (w := w) (S := (ZZ t dr tx)) (b := bt) (by omega) (by omega)) (by decide) rfl rfl (Nat.le_of_ble_eq_true rfl) (zRt_el ?_)
                  show zA l mX12_cutOf false 6 0 0 (zRp1 (flR k n x y) (ZZ t dr tx) w) zNo 181 [zR 73, zI k, zI n, zI x, zI y, .null, .null, .null, zI (zsv1 ((k + n) % 16) - zsv1 ((k + 15) % 16)), zI (zsv0 ((k + 15) % 16) - zsv0 ((k + n) % 16)), zI bt, zI tt] [zI (zsv1 bt), zI ((zsv0 bt) * (zsv1 ((k + n) % 16) - zsv1 ((k + 15) % 16))), zI (((zsv0 tt) * (zsv1 ((k + n) % 16) - zsv1 ((k + 15) % 16))) + ((zsv1 tt) * (zsv0 ((k + 15) % 16) - zsv0 ((k + n) % 16))))] (ZZ t dr tx) w
                  refine zA_iload dX12_cutOf_181 rfl ?_
                  refine zA_imul dX12_cutOf_183 ?_
                  refine zA_iadd dX12_cutOf_184 ?_
                  refine zA_icmp_le (tgt := 192) dX12_cutOf_185 (by decide) (by first | assumption | exact hr _ _ | exact inR_mk (by omega) (by omega)) (by first | assumption | exact hr _ _ | exact inR_mk (by omega) (by omega)) (fun c185 => ?_) (fun c185 => ?_)
                  · skip
                    refine zA_iinc (lo1 := [zR 73, zI k, zI n, zI x, zI y, .null, .null, .null, zI (zsv1 ((k + n) % 16) - zsv1 ((k + 15) % 16)), zI (zsv0 ((k + 15) % 16) - zsv0 ((k + n) % 16)), zI bt, zI (tt + 1)]) dX12_cutOf_192 rfl (by decide) rfl rfl ?_
                    refine zA_goto (tgt := 144) dX12_cutOf_195 (by decide) ?_
                    exact ih144 _ (tt + 1) (by omega) (by omega) (by omega) (by omega) (fun j a b => h2 j a b) (fun j a b => by
                                by_cases hj : j = tt
                                · rw [hj]; exact c185
                                · exact h3 j a (by omega)) (by omega)
                  · skip
                    refine zA_iload dX12_cutOf_188 rfl ?_
                    refine zA_istore (lo1 := [zR 73, zI k, zI n, zI x, zI y, .null, .null, .null, zI (zsv1 ((k + n) % 16) - zsv1 ((k + 15) % 16)), zI (zsv0 ((k + 15) % 16) - zsv0 ((k + n) % 16)), zI tt, zI tt]) dX12_cutOf_190 (by decide) rfl rfl ?_
                    refine zA_iinc (lo1 := [zR 73, zI k, zI n, zI x, zI y, .null, .null, .null, zI (zsv1 ((k + n) % 16) - zsv1 ((k + 15) % 16)), zI (zsv0 ((k + 15) % 16) - zsv0 ((k + n) % 16)), zI tt, zI (tt + 1)]) dX12_cutOf_192 rfl (by decide) rfl rfl ?_
                    refine zA_goto (tgt := 144) dX12_cutOf_195 (by decide) ?_
                    exact ih144 _ (tt + 1) (by omega) (by omega) (by omega) (by omega) (fun j a b => by
                                have c185 : farV (zsv1 ((k + n) % 16) - zsv1 ((k + 15) % 16)) (zsv0 ((k + 15) % 16) - zsv0 ((k + n) % 16)) bt < farV (zsv1 ((k + n) % 16) - zsv1 ((k + 15) % 16)) (zsv0 ((k + 15) % 16) - zsv0 ((k + n) % 16)) tt := c185
                                rcases Int.lt_trichotomy j bt with g | g | g
                                · have := h2 j a g; omega
                                · rw [g]; exact c185
                                · have := h3 j g b; omega) (fun j a b => by omega) (by omega)
            exact L144 _ 0 1 (by omega) (by omega) (by omega) (by omega) (fun j a b => by omega) (fun j a b => by omega) (Nat.lt_succ_self _)
          · skip
            replace c106 := zite_ne c106
            refine zA_bipush dX12_cutOf_109 rfl ?_
            refine zA_iret dX12_cutOf_111 rfl ?_
            exact ⟨⟨_, rfl, Or.inr (Or.inr (Or.inl ⟨nA, hBi.mp (isB_ne hia c90), c106, rfl⟩))⟩, rfl, rfl⟩
        · skip
          refine zA_bipush dX12_cutOf_93 rfl ?_
          refine zA_iret dX12_cutOf_95 rfl ?_
          exact ⟨⟨_, rfl, Or.inr (Or.inl ⟨nA, Classical.byContradiction (fun h => isB_eq hia c90 (hBi.mpr h)), rfl⟩)⟩, rfl, rfl⟩
      · skip
        have hcl := tb_clr (x := lf) (i := (k + i) % 16) l0 (by omega) (by omega) (by omega)
        refine zA_iload_n dX12_cutOf_14 rfl ?_
        refine zA_iload dX12_cutOf_15 rfl ?_
        refine zA_iadd dX12_cutOf_17 ?_
        refine zA_bipush dX12_cutOf_18 rfl ?_
        refine zA_irem dX12_cutOf_20 (by first | assumption | omega) (by first | assumption | omega) (by first | assumption | omega) (by first | assumption | omega) ?_
        refine zA_istore (lo1 := [zR 73, zI k, zI n, zI x, zI y, zI lf, zI i, zI ((k + i) % 16), .null, .null, .null, .null]) dX12_cutOf_21 (by decide) rfl rfl ?_
        refine zA_ldcw dX12_cutOf_23 qX12_433 ?_
        refine zA_iconst dX12_cutOf_26 ?_
        refine zA_iload dX12_cutOf_27 rfl ?_
        refine zA_ishl dX12_cutOf_29 ?_
        refine zA_iconst dX12_cutOf_30 ?_
        refine zA_ixor dX12_cutOf_31 ?_
        refine zA_iand dX12_cutOf_32 ?_
        refine zA_iload_n dX12_cutOf_33 rfl ?_
        refine zA_iload dX12_cutOf_34 rfl ?_
        refine zA_cS (st := []) dX12_cutOf_36 sX12_standsOn kX12_434 (m_standsOn (w := w) (s := wo ((k + i) % 16)) (x := x) (y := y) (wo_b (by omega) (by omega)).1 (wo_b (by omega) (by omega)).2 hC) (by decide) rfl rfl (Nat.le_of_ble_eq_true rfl) (zRp1_el (fun so hso => ?_))
        have hsr := isB_R hso
        refine zA_if_ne (tgt := 44) dX12_cutOf_39 (by decide) (by first | assumption | exact hr _ _ | exact inR_mk (by omega) (by omega)) (fun c39 => ?_) (fun c39 => ?_)
        · skip
          refine zA_iload dX12_cutOf_44 rfl ?_
          refine zA_iconst dX12_cutOf_46 ?_
          refine zA_iload dX12_cutOf_47 rfl ?_
          refine zA_ishl dX12_cutOf_49 ?_
          refine zA_iconst dX12_cutOf_50 ?_
          refine zA_ixor dX12_cutOf_51 ?_
          refine zA_iand dX12_cutOf_52 ?_
          refine zA_istore (lo1 := [zR 73, zI k, zI n, zI x, zI y, zI (iAnd lf (iXor (iShl 1 ((k + i) % 16)) (-1))), zI i, zI ((k + i) % 16), .null, .null, .null, .null]) dX12_cutOf_53 (by decide) rfl rfl ?_
          refine zA_iinc (lo1 := [zR 73, zI k, zI n, zI x, zI y, zI (iAnd lf (iXor (iShl 1 ((k + i) % 16)) (-1))), zI (i + 1), zI ((k + i) % 16), .null, .null, .null, .null]) dX12_cutOf_55 rfl (by decide) rfl rfl ?_
          refine zA_goto (tgt := 8) dX12_cutOf_58 (by decide) ?_
          refine zA_drop 7 (lo1 := [zR 73, zI k, zI n, zI x, zI y, zI (iAnd lf (iXor (iShl 1 ((k + i) % 16)) (-1))), zI (i + 1), .null, .null, .null, .null, .null]) rfl ?_
          exact ih8 _ (i + 1) (by omega) (by omega) hcl.1.1 (tb_lt16 hcl.1.1 (fun j hj => by rw [hcl.2 j (by omega), tb_hi16 l1 hj]; rfl)) (fun b a c => by
                      rw [hcl.2 b a, Bool.and_eq_true, hl b a c]
                      simp only [Bool.not_eq_true', decide_eq_false_iff_not]
                      omega) (fun j a b => by
                      by_cases hj : j = i
                      · rw [hj]; exact isB_ne hso c39
                      · exact hA j a (by omega)) (by omega)
        · skip
          refine zA_iconst dX12_cutOf_42 ?_
          refine zA_iret dX12_cutOf_43 rfl ?_
          exact ⟨⟨_, rfl, Or.inl ⟨⟨i, ⟨i0, by omega⟩, isB_eq hso c39⟩, rfl⟩⟩, rfl, rfl⟩
  exact L8 _ 65535 0 (by omega) (by omega) (by omega) (by omega) (fun b a c => ⟨fun _ => by omega, fun _ => tb_65535 a c⟩) (fun j a b => by omega) (Nat.lt_succ_self _)

set_option maxRecDepth 100000 in
set_option maxHeartbeats 4000000 in
theorem m_stands {l : Launch} {t dr tx : Nat} {w : zW} {s : Int} {x y : Int} (hx : inR x) (hy : inR y)  : zSp l mX12_stands false 7 0 0 [zR 73, zI s, zI x, zI y] (ZZ t dr tx) w (zMr (¬ ((-95 ≤ x ∧ x ≤ 95) ∧ (-95 ≤ y ∧ y ≤ 95))) (False) (isB (stOn (iAnd s 65535) x y)) (ZZ t dr tx) w (up w 73 1 0)) zNo := by
  refine zA_intro ⟨plainFor_of_name (by decide +kernel), Or.inl (by decide +kernel)⟩ rfl (Nat.le_of_ble_eq_true rfl) ?_
  refine zA_range (fun hr => ?_)
  show zA l mX12_stands false 7 0 0 (zMr (¬ ((-95 ≤ x ∧ x ≤ 95) ∧ (-95 ≤ y ∧ y ≤ 95))) (False) (isB (stOn (iAnd s 65535) x y)) (ZZ t dr tx) w (up w 73 1 0)) zNo 0 [zR 73, zI s, zI x, zI y] [] (ZZ t dr tx) w
  refine zA_aload_n dX12_stands_0 rfl ?_
  refine zA_iconst dX12_stands_1 ?_
  refine zA_putI dX12_stands_2 fX12_182 c73 rfl ⟨by decide, by decide⟩ ⟨rfl, rfl⟩ ?_
  refine zA_namew (fun w_1 hw_1 => ?_)
  refine zA_range (fun hr => ?_)
  replace hw_1 : w_1 = up w 73 1 0 := hw_1
  have ef : ∀ cc i, cc ≠ 73 → w_1 cc i = w cc i := fun cc i h => by rw [hw_1, up_cell _ _ _ _ h]
  refine zA_iload_n dX12_stands_5 rfl ?_
  refine zA_iload_n dX12_stands_6 rfl ?_
  refine zA_cS (st := []) dX12_stands_7 sX12_isCentre kX12_430 (m_isCentre (w := w_1) (S := (ZZ t dr tx)) (x := x) (y := y) hx hy) (by decide) rfl rfl (Nat.le_of_ble_eq_true rfl) (zRt_el ?_)
  show zA l mX12_stands false 7 0 0 (zMr (¬ ((-95 ≤ x ∧ x ≤ 95) ∧ (-95 ≤ y ∧ y ≤ 95))) (False) (isB (stOn (iAnd s 65535) x y)) (ZZ t dr tx) w (up w 73 1 0)) zNo 10 [zR 73, zI s, zI x, zI y] [zI (if okC x y then 1 else 0)] (ZZ t dr tx) w_1
  refine zA_if_ne (tgt := 19) dX12_stands_10 (by decide) (inR_ite _) (fun c10 => ?_) (fun c10 => ?_)
  · skip
    replace c10 := zite_ne c10
    refine zA_iload_n dX12_stands_19 rfl ?_
    refine zA_ldcw dX12_stands_20 qX12_433 ?_
    refine zA_iand dX12_stands_23 ?_
    refine zA_iload_n dX12_stands_24 rfl ?_
    refine zA_iload_n dX12_stands_25 rfl ?_
    refine zA_cS (st := []) dX12_stands_26 sX12_standsOn kX12_434 (m_standsOn (w := w_1) (s := iAnd s 65535) (x := x) (y := y) (by rw [iAnd_65535]; omega) (by rw [iAnd_65535]; omega) (by assumption)) (by decide) rfl rfl (Nat.le_of_ble_eq_true rfl) (zRp1_el (fun so hso => ?_))
    refine zA_zret dX12_stands_29 rfl (isB_01 hso) ?_
    first
    | exact ⟨rfl, Or.inr (Or.inr ⟨fun h => h (by assumption), fun h => h, ⟨_, rfl, hso⟩, hw_1⟩)⟩
    | (exact ⟨rfl, Or.inl ⟨by omega, rfl, by rw [hw_1, up_up]⟩⟩)
  · skip
    replace c10 := zite_eq c10
    refine zA_aload_n dX12_stands_13 rfl ?_
    refine zA_iconst dX12_stands_14 ?_
    refine zA_cV (st := []) dX12_stands_15 vX12_refuse kX12_344 (m_refuse (w := w_1) (k := 1) ⟨by decide, by decide⟩) (by decide) c73 rfl rfl (Nat.le_of_ble_eq_true rfl) rfl (zRt_el ?_)
    show zA l mX12_stands false 7 0 0 (zMr (¬ ((-95 ≤ x ∧ x ≤ 95) ∧ (-95 ≤ y ∧ y ≤ 95))) (False) (isB (stOn (iAnd s 65535) x y)) (ZZ t dr tx) w (up w 73 1 0)) zNo 18 [zR 73, zI s, zI x, zI y] [zI 0] (ZZ t dr tx) (up w_1 73 1 1)
    refine zA_zret dX12_stands_18 rfl (Or.inl rfl) ?_
    exact ⟨rfl, Or.inl ⟨by omega, rfl, by rw [hw_1, up_up]⟩⟩

set_option maxRecDepth 100000 in
set_option maxHeartbeats 4000000 in
theorem m_cut {l : Launch} {t dr tx : Nat} {w : zW} {k n : Int} (hk : inR k) (hn : inR n) {x y : Int} (hx : inR x) (hy : inR y)  : zSp l mX12_cut false 8 0 0 [zR 73, zI k, zI n, zI x, zI y] (ZZ t dr tx) w (zMr (¬ (((0 ≤ k ∧ k ≤ 15) ∧ (1 ≤ n ∧ n ≤ 12)) ∧ (-95 ≤ x ∧ x ≤ 95) ∧ (-95 ≤ y ∧ y ≤ 95))) (False) (flR k n x y) (ZZ t dr tx) w (up w 73 1 0)) zNo := by
  refine zA_intro ⟨plainFor_of_name (by decide +kernel), Or.inl (by decide +kernel)⟩ rfl (Nat.le_of_ble_eq_true rfl) ?_
  refine zA_range (fun hr => ?_)
  show zA l mX12_cut false 8 0 0 (zMr (¬ (((0 ≤ k ∧ k ≤ 15) ∧ (1 ≤ n ∧ n ≤ 12)) ∧ (-95 ≤ x ∧ x ≤ 95) ∧ (-95 ≤ y ∧ y ≤ 95))) (False) (flR k n x y) (ZZ t dr tx) w (up w 73 1 0)) zNo 0 [zR 73, zI k, zI n, zI x, zI y] [] (ZZ t dr tx) w
  refine zA_aload_n dX12_cut_0 rfl ?_
  refine zA_iconst dX12_cut_1 ?_
  refine zA_putI dX12_cut_2 fX12_182 c73 rfl ⟨by decide, by decide⟩ ⟨rfl, rfl⟩ ?_
  refine zA_namew (fun w_1 hw_1 => ?_)
  refine zA_range (fun hr => ?_)
  replace hw_1 : w_1 = up w 73 1 0 := hw_1
  have ef : ∀ cc i, cc ≠ 73 → w_1 cc i = w cc i := fun cc i h => by rw [hw_1, up_cell _ _ _ _ h]
  refine zA_iload_n dX12_cut_5 rfl ?_
  refine zA_iconst dX12_cut_6 ?_
  refine zA_bipush dX12_cut_7 rfl ?_
  refine zA_cS (st := []) dX12_cut_9 sX12_isIn kX12_185 (m_isIn (w := w_1) (a := k) (b := 0) (e := 15) (by first | assumption | exact hr _ _ | exact inR_mk (by omega) (by omega)) ⟨by decide, by decide⟩ ⟨by decide, by decide⟩) (by decide) rfl rfl (Nat.le_of_ble_eq_true rfl) (zRt_el ?_)
  show zA l mX12_cut false 8 0 0 (zMr (¬ (((0 ≤ k ∧ k ≤ 15) ∧ (1 ≤ n ∧ n ≤ 12)) ∧ (-95 ≤ x ∧ x ≤ 95) ∧ (-95 ≤ y ∧ y ≤ 95))) (False) (flR k n x y) (ZZ t dr tx) w (up w 73 1 0)) zNo 12 [zR 73, zI k, zI n, zI x, zI y] [zI (if 0 ≤ k ∧ k ≤ 15 then 1 else 0)] (ZZ t dr tx) w_1
  refine zA_if_eq (tgt := 34) dX12_cut_12 (by decide) (inR_ite _) (fun c12 => ?_) (fun c12 => ?_)
  · skip
    replace c12 := zite_eq c12
    refine zA_aload_n dX12_cut_34 rfl ?_
    refine zA_iconst dX12_cut_35 ?_
    refine zA_cV (st := []) dX12_cut_36 vX12_fail kX12_292 (m_fail (w := w_1) (k := 1) ⟨by decide, by decide⟩) (by decide) c73 rfl rfl (Nat.le_of_ble_eq_true rfl) rfl (zRt_el ?_)
    show zA l mX12_cut false 8 0 0 (zMr (¬ (((0 ≤ k ∧ k ≤ 15) ∧ (1 ≤ n ∧ n ≤ 12)) ∧ (-95 ≤ x ∧ x ≤ 95) ∧ (-95 ≤ y ∧ y ≤ 95))) (False) (flR k n x y) (ZZ t dr tx) w (up w 73 1 0)) zNo 39 [zR 73, zI k, zI n, zI x, zI y] [zI 0] (ZZ t dr tx) (up w_1 73 1 1)
    refine zA_iret dX12_cut_39 rfl ?_
    first
    | exact ⟨rfl, Or.inr (Or.inr ⟨fun h => h ⟨by omega, by assumption⟩, fun h => h, ⟨_, rfl, hcv⟩, hw_1⟩)⟩
    | (exact ⟨rfl, Or.inl ⟨by omega, rfl, by rw [hw_1, up_up]⟩⟩)
  · skip
    replace c12 := zite_ne c12
    refine zA_iload_n dX12_cut_15 rfl ?_
    refine zA_iconst dX12_cut_16 ?_
    refine zA_bipush dX12_cut_17 rfl ?_
    refine zA_cS (st := []) dX12_cut_19 sX12_isIn kX12_185 (m_isIn (w := w_1) (a := n) (b := 1) (e := 12) (by first | assumption | exact hr _ _ | exact inR_mk (by omega) (by omega)) ⟨by decide, by decide⟩ ⟨by decide, by decide⟩) (by decide) rfl rfl (Nat.le_of_ble_eq_true rfl) (zRt_el ?_)
    show zA l mX12_cut false 8 0 0 (zMr (¬ (((0 ≤ k ∧ k ≤ 15) ∧ (1 ≤ n ∧ n ≤ 12)) ∧ (-95 ≤ x ∧ x ≤ 95) ∧ (-95 ≤ y ∧ y ≤ 95))) (False) (flR k n x y) (ZZ t dr tx) w (up w 73 1 0)) zNo 22 [zR 73, zI k, zI n, zI x, zI y] [zI (if 1 ≤ n ∧ n ≤ 12 then 1 else 0)] (ZZ t dr tx) w_1
    refine zA_if_eq (tgt := 34) dX12_cut_22 (by decide) (inR_ite _) (fun c22 => ?_) (fun c22 => ?_)
    · skip
      replace c22 := zite_eq c22
      refine zA_aload_n dX12_cut_34 rfl ?_
      refine zA_iconst dX12_cut_35 ?_
      refine zA_cV (st := []) dX12_cut_36 vX12_fail kX12_292 (m_fail (w := w_1) (k := 1) ⟨by decide, by decide⟩) (by decide) c73 rfl rfl (Nat.le_of_ble_eq_true rfl) rfl (zRt_el ?_)
      show zA l mX12_cut false 8 0 0 (zMr (¬ (((0 ≤ k ∧ k ≤ 15) ∧ (1 ≤ n ∧ n ≤ 12)) ∧ (-95 ≤ x ∧ x ≤ 95) ∧ (-95 ≤ y ∧ y ≤ 95))) (False) (flR k n x y) (ZZ t dr tx) w (up w 73 1 0)) zNo 39 [zR 73, zI k, zI n, zI x, zI y] [zI 0] (ZZ t dr tx) (up w_1 73 1 1)
      refine zA_iret dX12_cut_39 rfl ?_
      first
      | exact ⟨rfl, Or.inr (Or.inr ⟨fun h => h ⟨by omega, by assumption⟩, fun h => h, ⟨_, rfl, hcv⟩, hw_1⟩)⟩
      | (exact ⟨rfl, Or.inl ⟨by omega, rfl, by rw [hw_1, up_up]⟩⟩)
    · skip
      replace c22 := zite_ne c22
      refine zA_iload_n dX12_cut_25 rfl ?_
      refine zA_iload dX12_cut_26 rfl ?_
      refine zA_cS (st := []) dX12_cut_28 sX12_isCentre kX12_430 (m_isCentre (w := w_1) (S := (ZZ t dr tx)) (x := x) (y := y) hx hy) (by decide) rfl rfl (Nat.le_of_ble_eq_true rfl) (zRt_el ?_)
      show zA l mX12_cut false 8 0 0 (zMr (¬ (((0 ≤ k ∧ k ≤ 15) ∧ (1 ≤ n ∧ n ≤ 12)) ∧ (-95 ≤ x ∧ x ≤ 95) ∧ (-95 ≤ y ∧ y ≤ 95))) (False) (flR k n x y) (ZZ t dr tx) w (up w 73 1 0)) zNo 31 [zR 73, zI k, zI n, zI x, zI y] [zI (if okC x y then 1 else 0)] (ZZ t dr tx) w_1
      refine zA_if_ne (tgt := 40) dX12_cut_31 (by decide) (inR_ite _) (fun c31 => ?_) (fun c31 => ?_)
      · skip
        replace c31 := zite_ne c31
        refine zA_aload_n dX12_cut_40 rfl ?_
        refine zA_iload_n dX12_cut_41 rfl ?_
        refine zA_iload_n dX12_cut_42 rfl ?_
        refine zA_iload_n dX12_cut_43 rfl ?_
        refine zA_iload dX12_cut_44 rfl ?_
        refine zA_cV (st := []) dX12_cut_46 vX12_cutOf kX12_437 (m_cutOf (w := w_1) (x := x) (y := y) (by assumption) (k := k) (n := n) (by omega) (by omega) (by omega) (by omega)) (by decide) c73 rfl rfl (Nat.le_of_ble_eq_true rfl) rfl (zRp1_el (fun cv hcv => ?_))
        refine zA_iret dX12_cut_49 rfl ?_
        first
        | exact ⟨rfl, Or.inr (Or.inr ⟨fun h => h ⟨by omega, by assumption⟩, fun h => h, ⟨_, rfl, hcv⟩, hw_1⟩)⟩
        | (exact ⟨rfl, Or.inl ⟨by omega, rfl, by rw [hw_1, up_up]⟩⟩)
      · skip
        replace c31 := zite_eq c31
        refine zA_aload_n dX12_cut_34 rfl ?_
        refine zA_iconst dX12_cut_35 ?_
        refine zA_cV (st := []) dX12_cut_36 vX12_fail kX12_292 (m_fail (w := w_1) (k := 1) ⟨by decide, by decide⟩) (by decide) c73 rfl rfl (Nat.le_of_ble_eq_true rfl) rfl (zRt_el ?_)
        show zA l mX12_cut false 8 0 0 (zMr (¬ (((0 ≤ k ∧ k ≤ 15) ∧ (1 ≤ n ∧ n ≤ 12)) ∧ (-95 ≤ x ∧ x ≤ 95) ∧ (-95 ≤ y ∧ y ≤ 95))) (False) (flR k n x y) (ZZ t dr tx) w (up w 73 1 0)) zNo 39 [zR 73, zI k, zI n, zI x, zI y] [zI 0] (ZZ t dr tx) (up w_1 73 1 1)
        refine zA_iret dX12_cut_39 rfl ?_
        first
        | exact ⟨rfl, Or.inr (Or.inr ⟨fun h => h ⟨by omega, by assumption⟩, fun h => h, ⟨_, rfl, hcv⟩, hw_1⟩)⟩
        | (exact ⟨rfl, Or.inl ⟨by omega, rfl, by rw [hw_1, up_up]⟩⟩)

set_option maxRecDepth 100000 in
set_option maxHeartbeats 4000000 in
theorem m_fell {l : Launch} {t dr tx : Nat} {w : zW} {f t0 : Int} (hf : inR f) (htt : inR t0) {x y : Int} (hx : inR x) (hy : inR y)  : zSp l mX12_fell false 8 0 0 [zR 73, zI f, zI t0, zI x, zI y] (ZZ t dr tx) w (zMr (¬ (((0 ≤ f ∧ f ≤ 15) ∧ (0 ≤ t0 ∧ t0 ≤ 15)) ∧ (-95 ≤ x ∧ x ≤ 95) ∧ (-95 ≤ y ∧ y ≤ 95))) (False) (isFst (fewP f t0 x y) 16) (ZZ t dr tx) w (up w 73 1 0)) zNo := by
  refine zA_intro ⟨plainFor_of_name (by decide +kernel), Or.inl (by decide +kernel)⟩ rfl (Nat.le_of_ble_eq_true rfl) ?_
  refine zA_range (fun hr => ?_)
  show zA l mX12_fell false 8 0 0 (zMr (¬ (((0 ≤ f ∧ f ≤ 15) ∧ (0 ≤ t0 ∧ t0 ≤ 15)) ∧ (-95 ≤ x ∧ x ≤ 95) ∧ (-95 ≤ y ∧ y ≤ 95))) (False) (isFst (fewP f t0 x y) 16) (ZZ t dr tx) w (up w 73 1 0)) zNo 0 [zR 73, zI f, zI t0, zI x, zI y, .null, .null, .null, .null] [] (ZZ t dr tx) w
  refine zA_aload_n dX12_fell_0 rfl ?_
  refine zA_iconst dX12_fell_1 ?_
  refine zA_putI dX12_fell_2 fX12_182 c73 rfl ⟨by decide, by decide⟩ ⟨rfl, rfl⟩ ?_
  refine zA_namew (fun w_1 hw_1 => ?_)
  refine zA_range (fun hr => ?_)
  replace hw_1 : w_1 = up w 73 1 0 := hw_1
  have ef : ∀ cc i, cc ≠ 73 → w_1 cc i = w cc i := fun cc i h => by rw [hw_1, up_cell _ _ _ _ h]
  refine zA_iload_n dX12_fell_5 rfl ?_
  refine zA_iconst dX12_fell_6 ?_
  refine zA_bipush dX12_fell_7 rfl ?_
  refine zA_cS (st := []) dX12_fell_9 sX12_isIn kX12_185 (m_isIn (w := w_1) (a := f) (b := 0) (e := 15) (by first | assumption | exact hr _ _ | exact inR_mk (by omega) (by omega)) ⟨by decide, by decide⟩ ⟨by decide, by decide⟩) (by decide) rfl rfl (Nat.le_of_ble_eq_true rfl) (zRt_el ?_)
  show zA l mX12_fell false 8 0 0 (zMr (¬ (((0 ≤ f ∧ f ≤ 15) ∧ (0 ≤ t0 ∧ t0 ≤ 15)) ∧ (-95 ≤ x ∧ x ≤ 95) ∧ (-95 ≤ y ∧ y ≤ 95))) (False) (isFst (fewP f t0 x y) 16) (ZZ t dr tx) w (up w 73 1 0)) zNo 12 [zR 73, zI f, zI t0, zI x, zI y, .null, .null, .null, .null] [zI (if 0 ≤ f ∧ f ≤ 15 then 1 else 0)] (ZZ t dr tx) w_1
  refine zA_if_eq (tgt := 34) dX12_fell_12 (by decide) (inR_ite _) (fun c12 => ?_) (fun c12 => ?_)
  · skip
    replace c12 := zite_eq c12
    refine zA_aload_n dX12_fell_34 rfl ?_
    refine zA_iconst dX12_fell_35 ?_
    refine zA_cV (st := []) dX12_fell_36 vX12_fail kX12_292 (m_fail (w := w_1) (k := 1) ⟨by decide, by decide⟩) (by decide) c73 rfl rfl (Nat.le_of_ble_eq_true rfl) rfl (zRt_el ?_)
    show zA l mX12_fell false 8 0 0 (zMr (¬ (((0 ≤ f ∧ f ≤ 15) ∧ (0 ≤ t0 ∧ t0 ≤ 15)) ∧ (-95 ≤ x ∧ x ≤ 95) ∧ (-95 ≤ y ∧ y ≤ 95))) (False) (isFst (fewP f t0 x y) 16) (ZZ t dr tx) w (up w 73 1 0)) zNo 39 [zR 73, zI f, zI t0, zI x, zI y, .null, .null, .null, .null] [zI 0] (ZZ t dr tx) (up w_1 73 1 1)
    refine zA_iret dX12_fell_39 rfl ?_
    exact ⟨rfl, Or.inl ⟨by omega, rfl, by rw [hw_1, up_up]⟩⟩
  · skip
    replace c12 := zite_ne c12
    refine zA_iload_n dX12_fell_15 rfl ?_
    refine zA_iconst dX12_fell_16 ?_
    refine zA_bipush dX12_fell_17 rfl ?_
    refine zA_cS (st := []) dX12_fell_19 sX12_isIn kX12_185 (m_isIn (w := w_1) (a := t0) (b := 0) (e := 15) (by first | assumption | exact hr _ _ | exact inR_mk (by omega) (by omega)) ⟨by decide, by decide⟩ ⟨by decide, by decide⟩) (by decide) rfl rfl (Nat.le_of_ble_eq_true rfl) (zRt_el ?_)
    show zA l mX12_fell false 8 0 0 (zMr (¬ (((0 ≤ f ∧ f ≤ 15) ∧ (0 ≤ t0 ∧ t0 ≤ 15)) ∧ (-95 ≤ x ∧ x ≤ 95) ∧ (-95 ≤ y ∧ y ≤ 95))) (False) (isFst (fewP f t0 x y) 16) (ZZ t dr tx) w (up w 73 1 0)) zNo 22 [zR 73, zI f, zI t0, zI x, zI y, .null, .null, .null, .null] [zI (if 0 ≤ t0 ∧ t0 ≤ 15 then 1 else 0)] (ZZ t dr tx) w_1
    refine zA_if_eq (tgt := 34) dX12_fell_22 (by decide) (inR_ite _) (fun c22 => ?_) (fun c22 => ?_)
    · skip
      replace c22 := zite_eq c22
      refine zA_aload_n dX12_fell_34 rfl ?_
      refine zA_iconst dX12_fell_35 ?_
      refine zA_cV (st := []) dX12_fell_36 vX12_fail kX12_292 (m_fail (w := w_1) (k := 1) ⟨by decide, by decide⟩) (by decide) c73 rfl rfl (Nat.le_of_ble_eq_true rfl) rfl (zRt_el ?_)
      show zA l mX12_fell false 8 0 0 (zMr (¬ (((0 ≤ f ∧ f ≤ 15) ∧ (0 ≤ t0 ∧ t0 ≤ 15)) ∧ (-95 ≤ x ∧ x ≤ 95) ∧ (-95 ≤ y ∧ y ≤ 95))) (False) (isFst (fewP f t0 x y) 16) (ZZ t dr tx) w (up w 73 1 0)) zNo 39 [zR 73, zI f, zI t0, zI x, zI y, .null, .null, .null, .null] [zI 0] (ZZ t dr tx) (up w_1 73 1 1)
      refine zA_iret dX12_fell_39 rfl ?_
      exact ⟨rfl, Or.inl ⟨by omega, rfl, by rw [hw_1, up_up]⟩⟩
    · skip
      replace c22 := zite_ne c22
      refine zA_iload_n dX12_fell_25 rfl ?_
      refine zA_iload dX12_fell_26 rfl ?_
      refine zA_cS (st := []) dX12_fell_28 sX12_isCentre kX12_430 (m_isCentre (w := w_1) (S := (ZZ t dr tx)) (x := x) (y := y) hx hy) (by decide) rfl rfl (Nat.le_of_ble_eq_true rfl) (zRt_el ?_)
      show zA l mX12_fell false 8 0 0 (zMr (¬ (((0 ≤ f ∧ f ≤ 15) ∧ (0 ≤ t0 ∧ t0 ≤ 15)) ∧ (-95 ≤ x ∧ x ≤ 95) ∧ (-95 ≤ y ∧ y ≤ 95))) (False) (isFst (fewP f t0 x y) 16) (ZZ t dr tx) w (up w 73 1 0)) zNo 31 [zR 73, zI f, zI t0, zI x, zI y, .null, .null, .null, .null] [zI (if okC x y then 1 else 0)] (ZZ t dr tx) w_1
      refine zA_if_ne (tgt := 40) dX12_fell_31 (by decide) (inR_ite _) (fun c31 => ?_) (fun c31 => ?_)
      · skip
        replace c31 := zite_ne c31
        refine zA_iload_n dX12_fell_40 rfl ?_
        refine zA_iload_n dX12_fell_41 rfl ?_
        refine zA_isub dX12_fell_42 ?_
        refine zA_bipush dX12_fell_43 rfl ?_
        refine zA_iadd dX12_fell_45 ?_
        refine zA_bipush dX12_fell_46 rfl ?_
        refine zA_irem dX12_fell_48 (by first | assumption | omega) (by first | assumption | omega) (by first | assumption | omega) (by first | assumption | omega) ?_
        refine zA_istore (lo1 := [zR 73, zI f, zI t0, zI x, zI y, zI (((t0 - f) + 16) % 16), .null, .null, .null]) dX12_fell_49 (by decide) rfl rfl ?_
        refine zA_iconst dX12_fell_51 ?_
        refine zA_istore (lo1 := [zR 73, zI f, zI t0, zI x, zI y, zI (((t0 - f) + 16) % 16), zI 1, .null, .null]) dX12_fell_52 (by decide) rfl rfl ?_
        have L54 : ∀ (z54 : Nat) (n : Int) (n0 : 1 ≤ n) (n1 : n ≤ 13) (hn : ∀ m : Int, 16 ≤ m → m < 16 * n → ¬ fewP f t0 x y m) (zm : (13 - n).toNat < z54), zA l mX12_fell false 8 0 0 (zMr (¬ (((0 ≤ f ∧ f ≤ 15) ∧ (0 ≤ t0 ∧ t0 ≤ 15)) ∧ (-95 ≤ x ∧ x ≤ 95) ∧ (-95 ≤ y ∧ y ≤ 95))) (False) (isFst (fewP f t0 x y) 16) (ZZ t dr tx) w (up w 73 1 0)) zNo 54 [zR 73, zI f, zI t0, zI x, zI y, zI ((t0 - f + 16) % 16), zI n, .null, .null] [] (ZZ t dr tx) w_1 := by
          intro z54
          induction z54 with
          | zero => intro n n0 n1 hn zm; exact absurd zm (Nat.not_lt_zero _)
          | succ z54 ih54 =>
            intro n n0 n1 hn zm
            refine zA_iload dX12_fell_54 rfl ?_
            refine zA_bipush dX12_fell_56 rfl ?_
            refine zA_icmp_gt (tgt := 125) dX12_fell_58 (by decide) (by first | assumption | exact hr _ _ | exact inR_mk (by omega) (by omega)) ⟨by decide, by decide⟩ (fun c58 => ?_) (fun c58 => ?_)
            · skip
              refine zA_iconst dX12_fell_125 ?_
              refine zA_iret dX12_fell_126 rfl ?_
              exact ⟨rfl, Or.inr (Or.inr ⟨fun h => h ⟨by omega, by assumption⟩, fun h => h, ⟨_, rfl, Or.inl ⟨rfl, fun m a h => hn m a (by have := h.1; omega) h⟩⟩, hw_1⟩)⟩
            · skip
              refine zA_iconst dX12_fell_61 ?_
              refine zA_istore (lo1 := [zR 73, zI f, zI t0, zI x, zI y, zI ((t0 - f + 16) % 16), zI n, zI 0, .null]) dX12_fell_62 (by decide) rfl rfl ?_
              have L64 : ∀ (z64 : Nat) (k : Int) (k0 : 0 ≤ k) (k1 : k ≤ 16) (hk : ∀ m : Int, 16 ≤ m → m < 16 * n + k → ¬ fewP f t0 x y m) (zm : (16 - k).toNat < z64), zA l mX12_fell false 8 0 0 (zMr (¬ (((0 ≤ f ∧ f ≤ 15) ∧ (0 ≤ t0 ∧ t0 ≤ 15)) ∧ (-95 ≤ x ∧ x ≤ 95) ∧ (-95 ≤ y ∧ y ≤ 95))) (False) (isFst (fewP f t0 x y) 16) (ZZ t dr tx) w (up w 73 1 0)) zNo 64 [zR 73, zI f, zI t0, zI x, zI y, zI ((t0 - f + 16) % 16), zI n, zI k, .null] [] (ZZ t dr tx) w_1 := by
                intro z64
                induction z64 with
                | zero => intro k k0 k1 hk zm; exact absurd zm (Nat.not_lt_zero _)
                | succ z64 ih64 =>
                  intro k k0 k1 hk zm
                  refine zA_iload dX12_fell_64 rfl ?_
                  refine zA_bipush dX12_fell_66 rfl ?_
                  refine zA_icmp_ge (tgt := 119) dX12_fell_68 (by decide) (by first | assumption | exact hr _ _ | exact inR_mk (by omega) (by omega)) ⟨by decide, by decide⟩ (fun c68 => ?_) (fun c68 => ?_)
                  · skip
                    refine zA_iinc (lo1 := [zR 73, zI f, zI t0, zI x, zI y, zI ((t0 - f + 16) % 16), zI (n + 1), zI k, .null]) dX12_fell_119 rfl (by decide) rfl rfl ?_
                    refine zA_goto (tgt := 54) dX12_fell_122 (by decide) ?_
                    refine zA_drop 7 (lo1 := [zR 73, zI f, zI t0, zI x, zI y, zI ((t0 - f + 16) % 16), zI (n + 1), .null, .null]) rfl ?_
                    exact ih54 (n + 1) (by omega) (by omega) (fun m a b => hk m a (by omega)) (by omega)
                  · skip
                    refine zA_aload_n dX12_fell_71 rfl ?_
                    refine zA_iload dX12_fell_72 rfl ?_
                    refine zA_iload dX12_fell_74 rfl ?_
                    refine zA_iload_n dX12_fell_76 rfl ?_
                    refine zA_iload dX12_fell_77 rfl ?_
                    refine zA_cV (st := []) dX12_fell_79 vX12_cutOf kX12_437 (m_cutOf (w := w_1) (x := x) (y := y) (by assumption) (k := k) (n := n) (by omega) (by omega) (by omega) (by omega)) (by decide) c73 rfl rfl (Nat.le_of_ble_eq_true rfl) rfl (zRp1_el (fun v hv => ?_))
                    have hvb := flR_b hv
                    refine zA_istore (lo1 := [zR 73, zI f, zI t0, zI x, zI y, zI ((t0 - f + 16) % 16), zI n, zI k, zI v]) dX12_fell_82 (by decide) rfl rfl ?_
                    refine zA_iload dX12_fell_84 rfl ?_
                    refine zA_if_lt (tgt := 113) dX12_fell_86 (by decide) (by first | assumption | exact hr _ _ | exact inR_mk (by omega) (by omega)) (fun c86 => ?_) (fun c86 => ?_)
                    · skip
                      refine zA_iinc (lo1 := [zR 73, zI f, zI t0, zI x, zI y, zI ((t0 - f + 16) % 16), zI n, zI (k + 1), zI v]) dX12_fell_113 rfl (by decide) rfl rfl ?_
                      refine zA_goto (tgt := 64) dX12_fell_116 (by decide) ?_
                      refine zA_drop 8 (lo1 := [zR 73, zI f, zI t0, zI x, zI y, zI ((t0 - f + 16) % 16), zI n, zI (k + 1), .null]) rfl ?_
                      exact ih64 (k + 1) (by omega) (by omega) (fun m a b h => by
                                    by_cases hm : m = 16 * n + k
                                    · subst hm
                                      obtain ⟨-, v2, g1, g2, g3⟩ := h
                                      rw [show (16 * n + k) % 16 = k by omega, show (16 * n + k) / 16 = n by omega] at g1
                                      have e := flR_u hv g1
                                      subst e
                                      omega
                                    · exact hk m a (by omega) h) (by omega)
                    · skip
                      refine zA_iload dX12_fell_89 rfl ?_
                      refine zA_iload_n dX12_fell_91 rfl ?_
                      refine zA_isub dX12_fell_92 ?_
                      refine zA_bipush dX12_fell_93 rfl ?_
                      refine zA_iadd dX12_fell_95 ?_
                      refine zA_bipush dX12_fell_96 rfl ?_
                      refine zA_irem dX12_fell_98 (by first | assumption | omega) (by first | assumption | omega) (by first | assumption | omega) (by first | assumption | omega) ?_
                      refine zA_iload dX12_fell_99 rfl ?_
                      refine zA_icmp_gt (tgt := 113) dX12_fell_101 (by decide) (by first | assumption | exact hr _ _ | exact inR_mk (by omega) (by omega)) (by first | assumption | exact hr _ _ | exact inR_mk (by omega) (by omega)) (fun c101 => ?_) (fun c101 => ?_)
                      · skip
                        refine zA_iinc (lo1 := [zR 73, zI f, zI t0, zI x, zI y, zI ((t0 - f + 16) % 16), zI n, zI (k + 1), zI v]) dX12_fell_113 rfl (by decide) rfl rfl ?_
                        refine zA_goto (tgt := 64) dX12_fell_116 (by decide) ?_
                        refine zA_drop 8 (lo1 := [zR 73, zI f, zI t0, zI x, zI y, zI ((t0 - f + 16) % 16), zI n, zI (k + 1), .null]) rfl ?_
                        exact ih64 (k + 1) (by omega) (by omega) (fun m a b h => by
                                      by_cases hm : m = 16 * n + k
                                      · subst hm
                                        obtain ⟨-, v2, g1, g2, g3⟩ := h
                                        rw [show (16 * n + k) % 16 = k by omega, show (16 * n + k) / 16 = n by omega] at g1
                                        have e := flR_u hv g1
                                        subst e
                                        omega
                                      · exact hk m a (by omega) h) (by omega)
                      · skip
                        refine zA_bipush dX12_fell_104 rfl ?_
                        refine zA_iload dX12_fell_106 rfl ?_
                        refine zA_imul dX12_fell_108 ?_
                        refine zA_iload dX12_fell_109 rfl ?_
                        refine zA_iadd dX12_fell_111 ?_
                        refine zA_iret dX12_fell_112 rfl ?_
                        refine ⟨rfl, Or.inr (Or.inr ⟨fun h => h ⟨by omega, by assumption⟩, fun h => h, ⟨_, rfl, Or.inr ⟨by omega, ⟨by omega, v, ?_, by omega, by omega⟩, fun m a b => hk m a b⟩⟩, hw_1⟩)⟩
                        rw [show (16 * n + k) % 16 = k by omega, show (16 * n + k) / 16 = n by omega]
                        exact hv
              exact L64 _ 0 (by omega) (by omega) (fun m a b => hn m a (by omega)) (Nat.lt_succ_self _)
        exact L54 _ 1 (by omega) (by omega) (fun m a b => by omega) (Nat.lt_succ_self _)
      · skip
        replace c31 := zite_eq c31
        refine zA_aload_n dX12_fell_34 rfl ?_
        refine zA_iconst dX12_fell_35 ?_
        refine zA_cV (st := []) dX12_fell_36 vX12_fail kX12_292 (m_fail (w := w_1) (k := 1) ⟨by decide, by decide⟩) (by decide) c73 rfl rfl (Nat.le_of_ble_eq_true rfl) rfl (zRt_el ?_)
        show zA l mX12_fell false 8 0 0 (zMr (¬ (((0 ≤ f ∧ f ≤ 15) ∧ (0 ≤ t0 ∧ t0 ≤ 15)) ∧ (-95 ≤ x ∧ x ≤ 95) ∧ (-95 ≤ y ∧ y ≤ 95))) (False) (isFst (fewP f t0 x y) 16) (ZZ t dr tx) w (up w 73 1 0)) zNo 39 [zR 73, zI f, zI t0, zI x, zI y, .null, .null, .null, .null] [zI 0] (ZZ t dr tx) (up w_1 73 1 1)
        refine zA_iret dX12_fell_39 rfl ?_
        exact ⟨rfl, Or.inl ⟨by omega, rfl, by rw [hw_1, up_up]⟩⟩

