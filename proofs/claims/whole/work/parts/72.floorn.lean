/-! floorDiv by a number below nought -/
theorem zdivN {a b : Int} (h1 : inR a) (h0 : inR (-a)) (hb : 0 < b) (rb : b < 2147483648) : Int32.ofInt (-a) / Int32.ofInt (-b) = Int32.ofInt (a.tdiv b) := by
  have h2 : inR (-b) := inR_mk (by omega) (by omega)
  have h3 := ztd_b h1 hb
  rw [← Int32.toInt_inj, Int32.toInt_div, inR_n h0, inR_n h2, inR_n h3, Int.neg_tdiv, Int.tdiv_neg, Int.neg_neg]
  exact Int.bmod_eq_of_le (by have := inR_lo h3; omega) (by have := inR_hi h3; omega)
section ZO
variable {l : Launch} {M : zM} {gr : Bool} {d bc bs : Nat} {Q : Option Value → zS → zW → Prop} {X : String → zS → zW → Prop} {pc : Nat} {lo st : List Value} {S : zS} {w : zW}
theorem zA_idivN {a b : Int} (hd : decode M.2.1 pc = .ok (.idiv, 1)) (ha : inR a) (h0 : inR (-a)) (hb : 0 < b) (rb : b < 2147483648) (kk : zA l M gr d bc bs Q X (pc + 1) lo (zI (a.tdiv b) :: st) S w) : zA l M gr d bc bs Q X pc lo (zI (-b) :: zI (-a) :: st) S w := by
  intro p e R s m args below meth c Z G ad A hC H locs ls cells slots hR hS hL hc hs
  exact lv_idiv hC.1 hC.2.1 hd (fun h => by rw [← Int32.toInt_inj, inR_n (inR_mk (by omega) (by omega))] at h; simp at h; omega) (zW1 (zdivN ha h0 hb rb) (kk p e R s m args below meth c Z G ad A hC H locs ls cells slots hR hS hL hc hs))
end ZO
set_option maxRecDepth 100000 in
set_option maxHeartbeats 4000000 in
theorem s_floorDivN {l : Launch} {w : zW} {gr : Bool} {S : zS} {a b : Int} (ha : inR a) (h0 : inR (-a)) (hb : 0 < b) (rb : b < 2147483648) : zSp l mJ9_floorDiv_7cf53 gr 1 0 0 [zI (-a), zI (-b)] S w (zRt (some (zI (a / b))) S w) zNo := by
  refine zA_intro ⟨by decide +kernel, Or.inr rfl⟩ rfl (Nat.le_of_ble_eq_true rfl) ?_
  refine zA_range (fun hr => ?_)
  show zA l mJ9_floorDiv_7cf53 gr 1 0 0 (zRt (some (zI (a / b))) S w) zNo 0 [zI (-a), zI (-b), .null] [] S w
  refine zA_iload_n dJ9_floorDiv_7cf53_0 rfl ?_
  refine zA_iload_n dJ9_floorDiv_7cf53_1 rfl ?_
  refine zA_idivN dJ9_floorDiv_7cf53_2 ha h0 hb rb ?_
  have hq := ztd_b ha hb
  refine zA_nameI (fun q hq0 => ?_)
  rw [← hq0] at hq
  rw [ztd hb] at hq0
  have hbR : inR (-b) := inR_mk (by omega) (by omega)
  refine zA_istore_n (lo1 := [zI (-a), zI (-b), zI q]) dJ9_floorDiv_7cf53_3 (by decide) rfl rfl ?_
  refine zA_iload_n dJ9_floorDiv_7cf53_4 rfl ?_
  refine zA_iload_n dJ9_floorDiv_7cf53_5 rfl ?_
  refine zA_ixor dJ9_floorDiv_7cf53_6 ?_
  have hx := zxor_neg h0 hbR
  have hxR : inR (iXor (-a) (-b)) := inR_t _
  refine zA_if_ge (tgt := 21) dJ9_floorDiv_7cf53_7 (by decide) (by first | assumption | exact hr _ _ | exact inR_mk (by omega) (by omega)) (fun c7 => ?_) (fun c7 => ?_)
  · skip
    have h3 : 0 ≤ a := by
      rcases (show a < 0 ∨ 0 ≤ a by omega) with h | h
      · exact absurd (hx.mpr (by omega)) (by omega)
      · exact h
    rw [if_pos h3] at hq0
    refine zA_iload_n dJ9_floorDiv_7cf53_21 rfl ?_
    refine zA_iret dJ9_floorDiv_7cf53_22 rfl ?_
    first
      | exact zRt_i hq0
      | exact zRt_i (by rw [show a = q * b by omega]; exact (Int.mul_ediv_cancel q (by omega)).symm)
      | (refine zRt_i (Int.le_antisymm ?_ ?_)
         · rw [Int.le_ediv_iff_mul_le hb, Int.sub_mul, Int.one_mul]
           omega
         · have := (Int.ediv_lt_iff_lt_mul (a := a) (b := q) hb).mpr (by omega)
           omega)
  · skip
    have h4 : a ≤ 0 := by
      have := hx.mp c7
      omega
    have hq1 : q = -(-a / b) := by
      rw [hq0]
      split
      · have : a = 0 := by omega
        subst this
        simp
      · rfl
    clear hq0 hx
    have e1 := Int.ediv_mul_le (-a) (show b ≠ 0 by omega)
    have e2 := Int.lt_ediv_add_one_mul_self (-a) hb
    have e3 : 0 ≤ -a / b := Int.ediv_nonneg (by omega) (by omega)
    have e4 : 0 ≤ -a / b * b := Int.mul_nonneg e3 (by omega)
    have e5 : q * b = -(-a / b * b) := by rw [hq1, Int.neg_mul]
    have e8 : q * -b = -a / b * b := by rw [Int.mul_neg, e5, Int.neg_neg]
    have e6 : (-a / b + 1) * b = -a / b * b + b := by rw [Int.add_mul, Int.one_mul]
    have a1 := inR_lo ha
    have a2 := inR_hi ha
    have a3 := inR_lo h0
    have a4 := inR_hi h0
    have e7 : 0 ≤ q + 2147483648 := by have := inR_lo hq; omega
    refine zA_iload_n dJ9_floorDiv_7cf53_10 rfl ?_
    refine zA_iload_n dJ9_floorDiv_7cf53_11 rfl ?_
    refine zA_imul dJ9_floorDiv_7cf53_12 ?_
    refine zA_iload_n dJ9_floorDiv_7cf53_13 rfl ?_
    refine zA_icmp_eq (tgt := 21) dJ9_floorDiv_7cf53_14 (by decide) (by first | assumption | exact hr _ _ | exact inR_mk (by omega) (by omega)) (by first | assumption | exact hr _ _ | exact inR_mk (by omega) (by omega)) (fun c14 => ?_) (fun c14 => ?_)
    · skip
      refine zA_iload_n dJ9_floorDiv_7cf53_21 rfl ?_
      refine zA_iret dJ9_floorDiv_7cf53_22 rfl ?_
      first
        | exact zRt_i hq0
        | exact zRt_i (by rw [show a = q * b by omega]; exact (Int.mul_ediv_cancel q (by omega)).symm)
        | (refine zRt_i (Int.le_antisymm ?_ ?_)
           · rw [Int.le_ediv_iff_mul_le hb, Int.sub_mul, Int.one_mul]
             omega
           · have := (Int.ediv_lt_iff_lt_mul (a := a) (b := q) hb).mpr (by omega)
             omega)
    · skip
      refine zA_iload_n dJ9_floorDiv_7cf53_17 rfl ?_
      refine zA_iconst dJ9_floorDiv_7cf53_18 ?_
      refine zA_isub dJ9_floorDiv_7cf53_19 ?_
      refine zA_iret dJ9_floorDiv_7cf53_20 rfl ?_
      first
        | exact zRt_i hq0
        | exact zRt_i (by rw [show a = q * b by omega]; exact (Int.mul_ediv_cancel q (by omega)).symm)
        | (refine zRt_i (Int.le_antisymm ?_ ?_)
           · rw [Int.le_ediv_iff_mul_le hb, Int.sub_mul, Int.one_mul]
             omega
           · have := (Int.ediv_lt_iff_lt_mul (a := a) (b := q) hb).mpr (by omega)
             omega)

