/-! lean: the latest year, which readings bound -/
set_option maxRecDepth 100000 in
set_option maxHeartbeats 4000000 in
theorem s_latestYear {l : Launch} {t dr tx : Nat} {w : zW} {c : Int} (c0 : 0 ≤ c) (c1 : c < 12) (m0 : 0 ≤ w 32 c) (m1 : w 32 c ≤ 10) : zSp l mX7_latestYear false 1 0 0 [zR 29, zI c] (ZZ t dr tx) w (zRt (some (zI (wkMost (fun i => w 30 (c * 10 + i)) (w 32 c).toNat))) (ZZ t dr tx) w) zNo := by
  refine zA_intro ⟨plainFor_of_name (by decide +kernel), Or.inl (by decide +kernel)⟩ rfl (Nat.le_of_ble_eq_true rfl) ?_
  refine zA_range (fun hr => ?_)
  show zA l mX7_latestYear false 1 0 0 (zRt (some (zI (wkMost (fun i => w 30 (c * 10 + i)) (w 32 c).toNat))) (ZZ t dr tx) w) zNo 0 [zR 29, zI c, .null, .null] [] (ZZ t dr tx) w
  refine zA_iconst dX7_latestYear_0 ?_
  refine zA_istore_n (lo1 := [zR 29, zI c, zI 0, .null]) dX7_latestYear_1 (by decide) rfl rfl ?_
  refine zA_iload_n dX7_latestYear_2 rfl ?_
  refine zA_bipush dX7_latestYear_3 rfl ?_
  refine zA_imul dX7_latestYear_5 ?_
  refine zA_istore_n (lo1 := [zR 29, zI c, zI 0, zI (c * 10)]) dX7_latestYear_6 (by decide) rfl rfl ?_
  have L7 : ∀ (z7 : Nat) (v x i : Int) (hx : x = c * 10 + i) (i0 : 0 ≤ i) (i1 : i ≤ w 32 c) (hv : v = wkMost (fun i => w 30 (c * 10 + i)) i.toNat) (hvr : inR v) (zm : (w 32 c - i).toNat < z7), zA l mX7_latestYear false 1 0 0 (zRt (some (zI (wkMost (fun i => w 30 (c * 10 + i)) (w 32 c).toNat))) (ZZ t dr tx) w) zNo 7 [zR 29, zI c, zI v, zI x] [] (ZZ t dr tx) w := by
    intro z7
    induction z7 with
    | zero => intro v x i hx i0 i1 hv hvr zm; exact absurd zm (Nat.not_lt_zero _)
    | succ z7 ih7 =>
      intro v x i hx i0 i1 hv hvr zm
      refine zA_iload_n dX7_latestYear_7 rfl ?_
      refine zA_iload_n dX7_latestYear_8 rfl ?_
      refine zA_bipush dX7_latestYear_9 rfl ?_
      refine zA_imul dX7_latestYear_11 ?_
      refine zA_aload_n dX7_latestYear_12 rfl ?_
      refine zA_getR (n := 32) dX7_latestYear_13 fX7_18 c29 rfl ?_
      refine zA_iload_n dX7_latestYear_16 rfl ?_
      refine zA_iaload dX7_latestYear_17 c32 (by first | assumption | omega) (by first | assumption | omega) (by decide) ?_
      refine zA_iadd dX7_latestYear_18 ?_
      refine zA_icmp_ge (tgt := 39) dX7_latestYear_19 (by decide) (by first | assumption | exact hr _ _ | exact inR_mk (by omega) (by omega)) (by first | assumption | exact hr _ _ | exact inR_mk (by omega) (by omega)) (fun c19 => ?_) (fun c19 => ?_)
      · skip
        refine zA_iload_n dX7_latestYear_39 rfl ?_
        refine zA_iret dX7_latestYear_40 rfl ?_
        exact zRt_i (by rw [hv, show i = w 32 c by omega])
      · skip
        refine zA_iload_n dX7_latestYear_22 rfl ?_
        refine zA_aload_n dX7_latestYear_23 rfl ?_
        refine zA_getR (n := 30) dX7_latestYear_24 fX7_11 c29 rfl ?_
        refine zA_iload_n dX7_latestYear_27 rfl ?_
        refine zA_iaload dX7_latestYear_28 c30 (by first | assumption | omega) (by first | assumption | omega) (by decide) ?_
        refine zA_mmax dX7_latestYear_29 kmX7_30 zw_max (by first | assumption | exact hr _ _ | exact inR_mk (by omega) (by omega)) (by first | assumption | exact hr _ _ | exact inR_mk (by omega) (by omega)) (Nat.le_of_ble_eq_true rfl) ?_
        refine zA_istore_n (lo1 := [zR 29, zI c, zI (max v (w 30 x)), zI x]) dX7_latestYear_32 (by decide) rfl rfl ?_
        refine zA_iinc (lo1 := [zR 29, zI c, zI (max v (w 30 x)), zI (x + 1)]) dX7_latestYear_33 rfl (by decide) rfl rfl ?_
        refine zA_goto (tgt := 7) dX7_latestYear_36 (by decide) ?_
        exact ih7 _ _ (i + 1) (by omega) (by omega) (by omega) (by rw [zsucc i0]; simp only [wkMost]; rw [zcast i0, ← hv, ← hx]) (by have := hvr.1; have := hvr.2; have := hr 30 x; have := this.1; have h2 := (hr 30 x).2; exact inR_mk (by omega) (by omega)) (by omega)
  exact L7 _ 0 (c * 10) 0 (by omega) (by omega) (by omega) rfl ⟨by decide, by decide⟩ (Nat.lt_succ_self _)

set_option maxRecDepth 100000 in
set_option maxHeartbeats 4000000 in
theorem s_bounds {l : Launch} {w : zW} {S : zS} {a b : Int} (ha : inR a) (hb : inR b) : zSp l mX7_bounds false 1 0 0 [zI a, zI b] S w (zRt (some (zI (if (a < 0 ∧ 0 < b) ∨ (0 < a ∧ a < b) ∨ (a < 0 ∧ b < a) then 1 else 0))) S w) zNo := by
  refine zA_intro ⟨plainFor_of_name (by decide +kernel), Or.inl (by decide +kernel)⟩ rfl (Nat.le_of_ble_eq_true rfl) ?_
  refine zA_range (fun hr => ?_)
  show zA l mX7_bounds false 1 0 0 (zRt (some (zI (if (a < 0 ∧ 0 < b) ∨ (0 < a ∧ a < b) ∨ (a < 0 ∧ b < a) then 1 else 0))) S w) zNo 0 [zI a, zI b] [] S w
  refine zA_iload_n dX7_bounds_0 rfl ?_
  refine zA_if_ge (tgt := 8) dX7_bounds_1 (by decide) (by first | assumption | exact hr _ _ | exact inR_mk (by omega) (by omega)) (fun c1 => ?_) (fun c1 => ?_)
  · skip
    refine zA_iload_n dX7_bounds_8 rfl ?_
    refine zA_if_le (tgt := 17) dX7_bounds_9 (by decide) (by first | assumption | exact hr _ _ | exact inR_mk (by omega) (by omega)) (fun c9 => ?_) (fun c9 => ?_)
    · skip
      refine zA_iload_n dX7_bounds_17 rfl ?_
      refine zA_if_ge (tgt := 30) dX7_bounds_18 (by decide) (by first | assumption | exact hr _ _ | exact inR_mk (by omega) (by omega)) (fun c18 => ?_) (fun c18 => ?_)
      · skip
        refine zA_iconst dX7_bounds_30 ?_
        refine zA_zret dX7_bounds_31 rfl (Or.inl rfl) ?_
        exact zRt_i (by split <;> first | rfl | omega)
      · skip
        refine zA_iload_n dX7_bounds_21 rfl ?_
        refine zA_iload_n dX7_bounds_22 rfl ?_
        refine zA_icmp_ge (tgt := 30) dX7_bounds_23 (by decide) (by first | assumption | exact hr _ _ | exact inR_mk (by omega) (by omega)) (by first | assumption | exact hr _ _ | exact inR_mk (by omega) (by omega)) (fun c23 => ?_) (fun c23 => ?_)
        · skip
          refine zA_iconst dX7_bounds_30 ?_
          refine zA_zret dX7_bounds_31 rfl (Or.inl rfl) ?_
          exact zRt_i (by split <;> first | rfl | omega)
        · skip
          refine zA_iconst dX7_bounds_26 ?_
          refine zA_goto (tgt := 31) dX7_bounds_27 (by decide) ?_
          refine zA_zret dX7_bounds_31 rfl (Or.inr rfl) ?_
          exact zRt_i (by split <;> first | rfl | omega)
    · skip
      refine zA_iload_n dX7_bounds_12 rfl ?_
      refine zA_iload_n dX7_bounds_13 rfl ?_
      refine zA_icmp_gt (tgt := 26) dX7_bounds_14 (by decide) (by first | assumption | exact hr _ _ | exact inR_mk (by omega) (by omega)) (by first | assumption | exact hr _ _ | exact inR_mk (by omega) (by omega)) (fun c14 => ?_) (fun c14 => ?_)
      · skip
        refine zA_iconst dX7_bounds_26 ?_
        refine zA_goto (tgt := 31) dX7_bounds_27 (by decide) ?_
        refine zA_zret dX7_bounds_31 rfl (Or.inr rfl) ?_
        exact zRt_i (by split <;> first | rfl | omega)
      · skip
        refine zA_iload_n dX7_bounds_17 rfl ?_
        refine zA_if_ge (tgt := 30) dX7_bounds_18 (by decide) (by first | assumption | exact hr _ _ | exact inR_mk (by omega) (by omega)) (fun c18 => ?_) (fun c18 => ?_)
        · skip
          refine zA_iconst dX7_bounds_30 ?_
          refine zA_zret dX7_bounds_31 rfl (Or.inl rfl) ?_
          exact zRt_i (by split <;> first | rfl | omega)
        · skip
          refine zA_iload_n dX7_bounds_21 rfl ?_
          refine zA_iload_n dX7_bounds_22 rfl ?_
          refine zA_icmp_ge (tgt := 30) dX7_bounds_23 (by decide) (by first | assumption | exact hr _ _ | exact inR_mk (by omega) (by omega)) (by first | assumption | exact hr _ _ | exact inR_mk (by omega) (by omega)) (fun c23 => ?_) (fun c23 => ?_)
          · skip
            refine zA_iconst dX7_bounds_30 ?_
            refine zA_zret dX7_bounds_31 rfl (Or.inl rfl) ?_
            exact zRt_i (by split <;> first | rfl | omega)
          · skip
            refine zA_iconst dX7_bounds_26 ?_
            refine zA_goto (tgt := 31) dX7_bounds_27 (by decide) ?_
            refine zA_zret dX7_bounds_31 rfl (Or.inr rfl) ?_
            exact zRt_i (by split <;> first | rfl | omega)
  · skip
    refine zA_iload_n dX7_bounds_4 rfl ?_
    refine zA_if_gt (tgt := 26) dX7_bounds_5 (by decide) (by first | assumption | exact hr _ _ | exact inR_mk (by omega) (by omega)) (fun c5 => ?_) (fun c5 => ?_)
    · skip
      refine zA_iconst dX7_bounds_26 ?_
      refine zA_goto (tgt := 31) dX7_bounds_27 (by decide) ?_
      refine zA_zret dX7_bounds_31 rfl (Or.inr rfl) ?_
      exact zRt_i (by split <;> first | rfl | omega)
    · skip
      refine zA_iload_n dX7_bounds_8 rfl ?_
      refine zA_if_le (tgt := 17) dX7_bounds_9 (by decide) (by first | assumption | exact hr _ _ | exact inR_mk (by omega) (by omega)) (fun c9 => ?_) (fun c9 => ?_)
      · skip
        refine zA_iload_n dX7_bounds_17 rfl ?_
        refine zA_if_ge (tgt := 30) dX7_bounds_18 (by decide) (by first | assumption | exact hr _ _ | exact inR_mk (by omega) (by omega)) (fun c18 => ?_) (fun c18 => ?_)
        · skip
          refine zA_iconst dX7_bounds_30 ?_
          refine zA_zret dX7_bounds_31 rfl (Or.inl rfl) ?_
          exact zRt_i (by split <;> first | rfl | omega)
        · skip
          refine zA_iload_n dX7_bounds_21 rfl ?_
          refine zA_iload_n dX7_bounds_22 rfl ?_
          refine zA_icmp_ge (tgt := 30) dX7_bounds_23 (by decide) (by first | assumption | exact hr _ _ | exact inR_mk (by omega) (by omega)) (by first | assumption | exact hr _ _ | exact inR_mk (by omega) (by omega)) (fun c23 => ?_) (fun c23 => ?_)
          · skip
            refine zA_iconst dX7_bounds_30 ?_
            refine zA_zret dX7_bounds_31 rfl (Or.inl rfl) ?_
            exact zRt_i (by split <;> first | rfl | omega)
          · skip
            refine zA_iconst dX7_bounds_26 ?_
            refine zA_goto (tgt := 31) dX7_bounds_27 (by decide) ?_
            refine zA_zret dX7_bounds_31 rfl (Or.inr rfl) ?_
            exact zRt_i (by split <;> first | rfl | omega)
      · skip
        refine zA_iload_n dX7_bounds_12 rfl ?_
        refine zA_iload_n dX7_bounds_13 rfl ?_
        refine zA_icmp_gt (tgt := 26) dX7_bounds_14 (by decide) (by first | assumption | exact hr _ _ | exact inR_mk (by omega) (by omega)) (by first | assumption | exact hr _ _ | exact inR_mk (by omega) (by omega)) (fun c14 => ?_) (fun c14 => ?_)
        · skip
          refine zA_iconst dX7_bounds_26 ?_
          refine zA_goto (tgt := 31) dX7_bounds_27 (by decide) ?_
          refine zA_zret dX7_bounds_31 rfl (Or.inr rfl) ?_
          exact zRt_i (by split <;> first | rfl | omega)
        · skip
          refine zA_iload_n dX7_bounds_17 rfl ?_
          refine zA_if_ge (tgt := 30) dX7_bounds_18 (by decide) (by first | assumption | exact hr _ _ | exact inR_mk (by omega) (by omega)) (fun c18 => ?_) (fun c18 => ?_)
          · skip
            refine zA_iconst dX7_bounds_30 ?_
            refine zA_zret dX7_bounds_31 rfl (Or.inl rfl) ?_
            exact zRt_i (by split <;> first | rfl | omega)
          · skip
            refine zA_iload_n dX7_bounds_21 rfl ?_
            refine zA_iload_n dX7_bounds_22 rfl ?_
            refine zA_icmp_ge (tgt := 30) dX7_bounds_23 (by decide) (by first | assumption | exact hr _ _ | exact inR_mk (by omega) (by omega)) (by first | assumption | exact hr _ _ | exact inR_mk (by omega) (by omega)) (fun c23 => ?_) (fun c23 => ?_)
            · skip
              refine zA_iconst dX7_bounds_30 ?_
              refine zA_zret dX7_bounds_31 rfl (Or.inl rfl) ?_
              exact zRt_i (by split <;> first | rfl | omega)
            · skip
              refine zA_iconst dX7_bounds_26 ?_
              refine zA_goto (tgt := 31) dX7_bounds_27 (by decide) ?_
              refine zA_zret dX7_bounds_31 rfl (Or.inr rfl) ?_
              exact zRt_i (by split <;> first | rfl | omega)

