/-! climbing, in the reference -/
set_option maxRecDepth 100000 in
set_option maxHeartbeats 4000000 in
theorem m_isNested {l : Launch} {t dr tx : Nat} {w : zW} {c d : Int} (hc : inR c) (hd : inR d) (hn0 : 0 ≤ w 78 0) (hn : w 78 0 ≤ 12) : zSp l mX12_isNested false 2 0 0 [zR 73, zI c, zI d] (ZZ t dr tx) w (zRp1 (isB (∃ k : Int, (0 ≤ k ∧ k < w 78 0) ∧ w 83 (3 * k) = c ∧ w 83 (3 * k + 1) ≤ d ∧ d ≤ w 83 (3 * k + 2))) (ZZ t dr tx) w) zNo := by
  refine zA_intro ⟨plainFor_of_name (by decide +kernel), Or.inl (by decide +kernel)⟩ rfl (Nat.le_of_ble_eq_true rfl) ?_
  refine zA_range (fun hr => ?_)
  show zA l mX12_isNested false 2 0 0 (zRp1 (isB (∃ k : Int, (0 ≤ k ∧ k < w 78 0) ∧ w 83 (3 * k) = c ∧ w 83 (3 * k + 1) ≤ d ∧ d ≤ w 83 (3 * k + 2))) (ZZ t dr tx) w) zNo 0 [zR 73, zI c, zI d, .null] [] (ZZ t dr tx) w
  refine zA_iconst dX12_isNested_0 ?_
  refine zA_istore_n (lo1 := [zR 73, zI c, zI d, zI 0]) dX12_isNested_1 (by decide) rfl rfl ?_
  have L2 : ∀ (z2 : Nat) (k : Int) (k0 : 0 ≤ k) (k1 : k ≤ w 78 0) (hk : ∀ j : Int, 0 ≤ j → j < k → ¬ (w 83 (3 * j) = c ∧ w 83 (3 * j + 1) ≤ d ∧ d ≤ w 83 (3 * j + 2))) (zm : (w 78 0 - k).toNat < z2), zA l mX12_isNested false 2 0 0 (zRp1 (isB (∃ k : Int, (0 ≤ k ∧ k < w 78 0) ∧ w 83 (3 * k) = c ∧ w 83 (3 * k + 1) ≤ d ∧ d ≤ w 83 (3 * k + 2))) (ZZ t dr tx) w) zNo 2 [zR 73, zI c, zI d, zI k] [] (ZZ t dr tx) w := by
    intro z2
    induction z2 with
    | zero => intro k k0 k1 hk zm; exact absurd zm (Nat.not_lt_zero _)
    | succ z2 ih2 =>
      intro k k0 k1 hk zm
      refine zA_iload_n dX12_isNested_2 rfl ?_
      refine zA_aload_n dX12_isNested_3 rfl ?_
      refine zA_getR (n := 78) dX12_isNested_4 fX12_35 c73 rfl ?_
      refine zA_iconst dX12_isNested_7 ?_
      refine zA_iaload dX12_isNested_8 c78 (by first | assumption | omega) (by first | assumption | omega) (by decide) ?_
      refine zA_icmp_ge (tgt := 59) dX12_isNested_9 (by decide) (by first | assumption | exact hr _ _ | exact inR_mk (by omega) (by omega)) (by first | assumption | exact hr _ _ | exact inR_mk (by omega) (by omega)) (fun c9 => ?_) (fun c9 => ?_)
      · skip
        refine zA_iconst dX12_isNested_59 ?_
        refine zA_zret dX12_isNested_60 rfl (Or.inl rfl) ?_
        exact ⟨⟨_, rfl, Or.inr ⟨rfl, fun ⟨j, a, b⟩ => hk j a.1 (by omega) b⟩⟩, rfl, rfl⟩
      · skip
        refine zA_aload_n dX12_isNested_12 rfl ?_
        refine zA_getR (n := 83) dX12_isNested_13 fX12_48 c73 rfl ?_
        refine zA_iconst dX12_isNested_16 ?_
        refine zA_iload_n dX12_isNested_17 rfl ?_
        refine zA_imul dX12_isNested_18 ?_
        refine zA_iaload dX12_isNested_19 c83 (by first | assumption | omega) (by first | assumption | omega) (by decide) ?_
        refine zA_iload_n dX12_isNested_20 rfl ?_
        refine zA_icmp_ne (tgt := 53) dX12_isNested_21 (by decide) (by first | assumption | exact hr _ _ | exact inR_mk (by omega) (by omega)) (by first | assumption | exact hr _ _ | exact inR_mk (by omega) (by omega)) (fun c21 => ?_) (fun c21 => ?_)
        · skip
          refine zA_iinc (lo1 := [zR 73, zI c, zI d, zI (k + 1)]) dX12_isNested_53 rfl (by decide) rfl rfl ?_
          refine zA_goto (tgt := 2) dX12_isNested_56 (by decide) ?_
          exact ih2 (k + 1) (by omega) (by omega) (fun j a b => by
                      by_cases e : j = k
                      · rw [e]; omega
                      · exact hk j a (by omega)) (by omega)
        · skip
          refine zA_iload_n dX12_isNested_24 rfl ?_
          refine zA_aload_n dX12_isNested_25 rfl ?_
          refine zA_getR (n := 83) dX12_isNested_26 fX12_48 c73 rfl ?_
          refine zA_iconst dX12_isNested_29 ?_
          refine zA_iload_n dX12_isNested_30 rfl ?_
          refine zA_imul dX12_isNested_31 ?_
          refine zA_iconst dX12_isNested_32 ?_
          refine zA_iadd dX12_isNested_33 ?_
          refine zA_iaload dX12_isNested_34 c83 (by first | assumption | omega) (by first | assumption | omega) (by decide) ?_
          refine zA_aload_n dX12_isNested_35 rfl ?_
          refine zA_getR (n := 83) dX12_isNested_36 fX12_48 c73 rfl ?_
          refine zA_iconst dX12_isNested_39 ?_
          refine zA_iload_n dX12_isNested_40 rfl ?_
          refine zA_imul dX12_isNested_41 ?_
          refine zA_iconst dX12_isNested_42 ?_
          refine zA_iadd dX12_isNested_43 ?_
          refine zA_iaload dX12_isNested_44 c83 (by first | assumption | omega) (by first | assumption | omega) (by decide) ?_
          refine zA_cS (st := []) dX12_isNested_45 sX12_isIn kX12_185 (m_isIn (w := w) (a := d) (b := (w 83 ((3 * k) + 1))) (e := (w 83 ((3 * k) + 2))) (by first | assumption | exact hr _ _ | exact inR_mk (by omega) (by omega)) (by first | assumption | exact hr _ _ | exact inR_mk (by omega) (by omega)) (by first | assumption | exact hr _ _ | exact inR_mk (by omega) (by omega))) (by decide) rfl rfl (Nat.le_of_ble_eq_true rfl) (zRt_el ?_)
          show zA l mX12_isNested false 2 0 0 (zRp1 (isB (∃ k : Int, (0 ≤ k ∧ k < w 78 0) ∧ w 83 (3 * k) = c ∧ w 83 (3 * k + 1) ≤ d ∧ d ≤ w 83 (3 * k + 2))) (ZZ t dr tx) w) zNo 48 [zR 73, zI c, zI d, zI k] [zI (if (w 83 ((3 * k) + 1)) ≤ d ∧ d ≤ (w 83 ((3 * k) + 2)) then 1 else 0)] (ZZ t dr tx) w
          refine zA_if_eq (tgt := 53) dX12_isNested_48 (by decide) (inR_ite _) (fun c48 => ?_) (fun c48 => ?_)
          · skip
            replace c48 := zite_eq c48
            refine zA_iinc (lo1 := [zR 73, zI c, zI d, zI (k + 1)]) dX12_isNested_53 rfl (by decide) rfl rfl ?_
            refine zA_goto (tgt := 2) dX12_isNested_56 (by decide) ?_
            exact ih2 (k + 1) (by omega) (by omega) (fun j a b => by
                        by_cases e : j = k
                        · rw [e]; omega
                        · exact hk j a (by omega)) (by omega)
          · skip
            replace c48 := zite_ne c48
            refine zA_iconst dX12_isNested_51 ?_
            refine zA_zret dX12_isNested_52 rfl (Or.inr rfl) ?_
            exact ⟨⟨_, rfl, Or.inl ⟨rfl, k, ⟨k0, by omega⟩, by omega, by omega, by omega⟩⟩, rfl, rfl⟩
  exact L2 _ 0 (by omega) (by omega) (fun j a b => by omega) (Nat.lt_succ_self _)

set_option maxRecDepth 100000 in
set_option maxHeartbeats 4000000 in
theorem m_refused {l : Launch} {t dr tx : Nat} {w : zW} (hn0 : 0 ≤ w 75 0) (hn : w 75 0 ≤ 12) (hr0 : 0 ≤ w 73 44) (hr1 : w 73 44 ≤ 20) (hq0 : 0 ≤ w 78 0) (hq : w 78 0 ≤ 12) (hmu : ∀ x : Int, 0 ≤ x → x < 360 → 0 ≤ w 99 x ∧ w 99 x < 1024) {m c r d : Int} (hm : inR m) (hc : inR c) (hrr : inR r) (hd : inR d) : zSp l mX12_refused false 3 0 0 [zR 73, zI m, zI c, zI r, zI d] (ZZ t dr tx) w (zRp1 (rfR ((0 ≤ m ∧ m ≤ 9) ∧ (0 ≤ c ∧ c < w 75 0) ∧ (0 ≤ r ∧ r < w 73 44) ∧ 0 ≤ d ∧ d ≤ 29) (w 80 d) (w 73 46) (∃ k : Int, (0 ≤ k ∧ k < w 78 0) ∧ w 83 (3 * k) = c ∧ w 83 (3 * k + 1) ≤ d ∧ d ≤ w 83 (3 * k + 2)) (∃ ch : Int, (0 ≤ ch ∧ ch < w 75 0) ∧ tb (w 99 (30 * ch + d)) m = true) (5 ≤ m) (w 99 (30 * c + d) % 32 ≠ 0) (w 95 r) (w 79 c)) (ZZ t dr tx) w) zNo := by
  refine zA_intro ⟨plainFor_of_name (by decide +kernel), Or.inl (by decide +kernel)⟩ rfl (Nat.le_of_ble_eq_true rfl) ?_
  refine zA_range (fun hr => ?_)
  show zA l mX12_refused false 3 0 0 (zRp1 (rfR ((0 ≤ m ∧ m ≤ 9) ∧ (0 ≤ c ∧ c < w 75 0) ∧ (0 ≤ r ∧ r < w 73 44) ∧ 0 ≤ d ∧ d ≤ 29) (w 80 d) (w 73 46) (∃ k : Int, (0 ≤ k ∧ k < w 78 0) ∧ w 83 (3 * k) = c ∧ w 83 (3 * k + 1) ≤ d ∧ d ≤ w 83 (3 * k + 2)) (∃ ch : Int, (0 ≤ ch ∧ ch < w 75 0) ∧ tb (w 99 (30 * ch + d)) m = true) (5 ≤ m) (w 99 (30 * c + d) % 32 ≠ 0) (w 95 r) (w 79 c)) (ZZ t dr tx) w) zNo 0 [zR 73, zI m, zI c, zI r, zI d, .null] [] (ZZ t dr tx) w
  refine zA_iload_n dX12_refused_0 rfl ?_
  refine zA_iconst dX12_refused_1 ?_
  refine zA_bipush dX12_refused_2 rfl ?_
  refine zA_cS (st := []) dX12_refused_4 sX12_isIn kX12_185 (m_isIn (w := w) (a := m) (b := 0) (e := 9) (by first | assumption | exact hr _ _ | exact inR_mk (by omega) (by omega)) ⟨by decide, by decide⟩ ⟨by decide, by decide⟩) (by decide) rfl rfl (Nat.le_of_ble_eq_true rfl) (zRt_el ?_)
  show zA l mX12_refused false 3 0 0 (zRp1 (rfR ((0 ≤ m ∧ m ≤ 9) ∧ (0 ≤ c ∧ c < w 75 0) ∧ (0 ≤ r ∧ r < w 73 44) ∧ 0 ≤ d ∧ d ≤ 29) (w 80 d) (w 73 46) (∃ k : Int, (0 ≤ k ∧ k < w 78 0) ∧ w 83 (3 * k) = c ∧ w 83 (3 * k + 1) ≤ d ∧ d ≤ w 83 (3 * k + 2)) (∃ ch : Int, (0 ≤ ch ∧ ch < w 75 0) ∧ tb (w 99 (30 * ch + d)) m = true) (5 ≤ m) (w 99 (30 * c + d) % 32 ≠ 0) (w 95 r) (w 79 c)) (ZZ t dr tx) w) zNo 7 [zR 73, zI m, zI c, zI r, zI d, .null] [zI (if 0 ≤ m ∧ m ≤ 9 then 1 else 0)] (ZZ t dr tx) w
  refine zA_if_eq (tgt := 43) dX12_refused_7 (by decide) (inR_ite _) (fun c7 => ?_) (fun c7 => ?_)
  · skip
    replace c7 := zite_eq c7
    refine zA_iconst dX12_refused_43 ?_
    refine zA_iret dX12_refused_44 rfl ?_
    exact ⟨⟨_, rfl, Or.inl ⟨by omega, rfl⟩⟩, rfl, rfl⟩
  · skip
    replace c7 := zite_ne c7
    refine zA_aload_n dX12_refused_10 rfl ?_
    refine zA_iload_n dX12_refused_11 rfl ?_
    refine zA_cV (st := []) dX12_refused_12 vX12_isChimney kX12_321 (m_isChimney (w := w) (c := c) (by first | assumption | exact hr _ _ | exact inR_mk (by omega) (by omega)) (by omega) (by omega)) (by decide) c73 rfl rfl (Nat.le_of_ble_eq_true rfl) rfl (zRt_el ?_)
    show zA l mX12_refused false 3 0 0 (zRp1 (rfR ((0 ≤ m ∧ m ≤ 9) ∧ (0 ≤ c ∧ c < w 75 0) ∧ (0 ≤ r ∧ r < w 73 44) ∧ 0 ≤ d ∧ d ≤ 29) (w 80 d) (w 73 46) (∃ k : Int, (0 ≤ k ∧ k < w 78 0) ∧ w 83 (3 * k) = c ∧ w 83 (3 * k + 1) ≤ d ∧ d ≤ w 83 (3 * k + 2)) (∃ ch : Int, (0 ≤ ch ∧ ch < w 75 0) ∧ tb (w 99 (30 * ch + d)) m = true) (5 ≤ m) (w 99 (30 * c + d) % 32 ≠ 0) (w 95 r) (w 79 c)) (ZZ t dr tx) w) zNo 15 [zR 73, zI m, zI c, zI r, zI d, .null] [zI (if 0 ≤ c ∧ c < w 75 0 then 1 else 0)] (ZZ t dr tx) w
    refine zA_if_eq (tgt := 43) dX12_refused_15 (by decide) (inR_ite _) (fun c15 => ?_) (fun c15 => ?_)
    · skip
      replace c15 := zite_eq c15
      refine zA_iconst dX12_refused_43 ?_
      refine zA_iret dX12_refused_44 rfl ?_
      exact ⟨⟨_, rfl, Or.inl ⟨by omega, rfl⟩⟩, rfl, rfl⟩
    · skip
      replace c15 := zite_ne c15
      refine zA_iload_n dX12_refused_18 rfl ?_
      refine zA_iconst dX12_refused_19 ?_
      refine zA_aload_n dX12_refused_20 rfl ?_
      refine zA_getI dX12_refused_21 fX12_312 c73 rfl ?_
      refine zA_valI (w 73 44) rfl ?_
      refine zA_iconst dX12_refused_24 ?_
      refine zA_isub dX12_refused_25 ?_
      refine zA_cS (st := []) dX12_refused_26 sX12_isIn kX12_185 (m_isIn (w := w) (a := r) (b := 0) (e := ((w 73 44) - 1)) (by first | assumption | exact hr _ _ | exact inR_mk (by omega) (by omega)) ⟨by decide, by decide⟩ (by first | assumption | exact hr _ _ | exact inR_mk (by omega) (by omega))) (by decide) rfl rfl (Nat.le_of_ble_eq_true rfl) (zRt_el ?_)
      show zA l mX12_refused false 3 0 0 (zRp1 (rfR ((0 ≤ m ∧ m ≤ 9) ∧ (0 ≤ c ∧ c < w 75 0) ∧ (0 ≤ r ∧ r < w 73 44) ∧ 0 ≤ d ∧ d ≤ 29) (w 80 d) (w 73 46) (∃ k : Int, (0 ≤ k ∧ k < w 78 0) ∧ w 83 (3 * k) = c ∧ w 83 (3 * k + 1) ≤ d ∧ d ≤ w 83 (3 * k + 2)) (∃ ch : Int, (0 ≤ ch ∧ ch < w 75 0) ∧ tb (w 99 (30 * ch + d)) m = true) (5 ≤ m) (w 99 (30 * c + d) % 32 ≠ 0) (w 95 r) (w 79 c)) (ZZ t dr tx) w) zNo 29 [zR 73, zI m, zI c, zI r, zI d, .null] [zI (if 0 ≤ r ∧ r ≤ ((w 73 44) - 1) then 1 else 0)] (ZZ t dr tx) w
      refine zA_if_eq (tgt := 43) dX12_refused_29 (by decide) (inR_ite _) (fun c29 => ?_) (fun c29 => ?_)
      · skip
        replace c29 := zite_eq c29
        refine zA_iconst dX12_refused_43 ?_
        refine zA_iret dX12_refused_44 rfl ?_
        exact ⟨⟨_, rfl, Or.inl ⟨by omega, rfl⟩⟩, rfl, rfl⟩
      · skip
        replace c29 := zite_ne c29
        refine zA_iload dX12_refused_32 rfl ?_
        refine zA_iconst dX12_refused_34 ?_
        refine zA_bipush dX12_refused_35 rfl ?_
        refine zA_cS (st := []) dX12_refused_37 sX12_isIn kX12_185 (m_isIn (w := w) (a := d) (b := 0) (e := 29) (by first | assumption | exact hr _ _ | exact inR_mk (by omega) (by omega)) ⟨by decide, by decide⟩ ⟨by decide, by decide⟩) (by decide) rfl rfl (Nat.le_of_ble_eq_true rfl) (zRt_el ?_)
        show zA l mX12_refused false 3 0 0 (zRp1 (rfR ((0 ≤ m ∧ m ≤ 9) ∧ (0 ≤ c ∧ c < w 75 0) ∧ (0 ≤ r ∧ r < w 73 44) ∧ 0 ≤ d ∧ d ≤ 29) (w 80 d) (w 73 46) (∃ k : Int, (0 ≤ k ∧ k < w 78 0) ∧ w 83 (3 * k) = c ∧ w 83 (3 * k + 1) ≤ d ∧ d ≤ w 83 (3 * k + 2)) (∃ ch : Int, (0 ≤ ch ∧ ch < w 75 0) ∧ tb (w 99 (30 * ch + d)) m = true) (5 ≤ m) (w 99 (30 * c + d) % 32 ≠ 0) (w 95 r) (w 79 c)) (ZZ t dr tx) w) zNo 40 [zR 73, zI m, zI c, zI r, zI d, .null] [zI (if 0 ≤ d ∧ d ≤ 29 then 1 else 0)] (ZZ t dr tx) w
        refine zA_if_ne (tgt := 45) dX12_refused_40 (by decide) (inR_ite _) (fun c40 => ?_) (fun c40 => ?_)
        · skip
          replace c40 := zite_ne c40
          refine zA_aload_n dX12_refused_45 rfl ?_
          refine zA_getR (n := 80) dX12_refused_46 fX12_41 c73 rfl ?_
          refine zA_iload dX12_refused_49 rfl ?_
          refine zA_iaload dX12_refused_51 c80 (by first | assumption | omega) (by first | assumption | omega) (by decide) ?_
          refine zA_aload_n dX12_refused_52 rfl ?_
          refine zA_getI dX12_refused_53 fX12_91 c73 rfl ?_
          refine zA_valI (w 73 46) rfl ?_
          refine zA_icmp_le (tgt := 61) dX12_refused_56 (by decide) (by first | assumption | exact hr _ _ | exact inR_mk (by omega) (by omega)) (by first | assumption | exact hr _ _ | exact inR_mk (by omega) (by omega)) (fun c56 => ?_) (fun c56 => ?_)
          · skip
            refine zA_aload_n dX12_refused_61 rfl ?_
            refine zA_iload_n dX12_refused_62 rfl ?_
            refine zA_iload dX12_refused_63 rfl ?_
            refine zA_cV (st := []) dX12_refused_65 vX12_isNested kX12_324 (m_isNested (w := w) hc hd hq0 hq) (by decide) c73 rfl rfl (Nat.le_of_ble_eq_true rfl) rfl (zRp1_el (fun ne hne => ?_))
            have hner := isB_R hne
            refine zA_if_eq (tgt := 73) dX12_refused_68 (by decide) (by first | assumption | exact hr _ _ | exact inR_mk (by omega) (by omega)) (fun c68 => ?_) (fun c68 => ?_)
            · skip
              refine zA_iconst dX12_refused_73 ?_
              refine zA_istore (lo1 := [zR 73, zI m, zI c, zI r, zI d, zI 0]) dX12_refused_74 (by decide) rfl rfl ?_
              have L76 : ∀ (z76 : Nat) (k : Int) (k0 : 0 ≤ k) (k1 : k ≤ w 75 0) (hk : ∀ j : Int, 0 ≤ j → j < k → tb (w 99 (30 * j + d)) m = false) (zm : (w 75 0 - k).toNat < z76), zA l mX12_refused false 3 0 0 (zRp1 (rfR ((0 ≤ m ∧ m ≤ 9) ∧ (0 ≤ c ∧ c < w 75 0) ∧ (0 ≤ r ∧ r < w 73 44) ∧ 0 ≤ d ∧ d ≤ 29) (w 80 d) (w 73 46) (∃ k : Int, (0 ≤ k ∧ k < w 78 0) ∧ w 83 (3 * k) = c ∧ w 83 (3 * k + 1) ≤ d ∧ d ≤ w 83 (3 * k + 2)) (∃ ch : Int, (0 ≤ ch ∧ ch < w 75 0) ∧ tb (w 99 (30 * ch + d)) m = true) (5 ≤ m) (w 99 (30 * c + d) % 32 ≠ 0) (w 95 r) (w 79 c)) (ZZ t dr tx) w) zNo 76 [zR 73, zI m, zI c, zI r, zI d, zI k] [] (ZZ t dr tx) w := by
                intro z76
                induction z76 with
                | zero => intro k k0 k1 hk zm; exact absurd zm (Nat.not_lt_zero _)
                | succ z76 ih76 =>
                  intro k k0 k1 hk zm
                  refine zA_iload dX12_refused_76 rfl ?_
                  refine zA_aload_n dX12_refused_78 rfl ?_
                  refine zA_getR (n := 75) dX12_refused_79 fX12_25 c73 rfl ?_
                  refine zA_iconst dX12_refused_82 ?_
                  refine zA_iaload dX12_refused_83 c75 (by first | assumption | omega) (by first | assumption | omega) (by decide) ?_
                  refine zA_icmp_ge (tgt := 116) dX12_refused_84 (by decide) (by first | assumption | exact hr _ _ | exact inR_mk (by omega) (by omega)) (by first | assumption | exact hr _ _ | exact inR_mk (by omega) (by omega)) (fun c84 => ?_) (fun c84 => ?_)
                  · skip
                    have hnu : ¬ (∃ ch : Int, (0 ≤ ch ∧ ch < w 75 0) ∧ tb (w 99 (30 * ch + d)) m = true) := fun ⟨j, a, b⟩ => by rw [hk j a.1 (by omega)] at b; cases b
                    refine zA_iload_n dX12_refused_116 rfl ?_
                    refine zA_iconst dX12_refused_117 ?_
                    refine zA_icmp_lt (tgt := 141) dX12_refused_118 (by decide) (by first | assumption | exact hr _ _ | exact inR_mk (by omega) (by omega)) ⟨by decide, by decide⟩ (fun c118 => ?_) (fun c118 => ?_)
                    · skip
                      refine zA_aload_n dX12_refused_141 rfl ?_
                      refine zA_getR (n := 95) dX12_refused_142 fX12_94 c73 rfl ?_
                      refine zA_iload_n dX12_refused_145 rfl ?_
                      refine zA_iaload dX12_refused_146 c95 (by first | assumption | omega) (by first | assumption | omega) (by decide) ?_
                      refine zA_aload_n dX12_refused_147 rfl ?_
                      refine zA_getR (n := 79) dX12_refused_148 fX12_38 c73 rfl ?_
                      refine zA_iload_n dX12_refused_151 rfl ?_
                      refine zA_iaload dX12_refused_152 c79 (by first | assumption | omega) (by first | assumption | omega) (by decide) ?_
                      refine zA_icmp_ge (tgt := 161) dX12_refused_153 (by decide) (by first | assumption | exact hr _ _ | exact inR_mk (by omega) (by omega)) (by first | assumption | exact hr _ _ | exact inR_mk (by omega) (by omega)) (fun c153 => ?_) (fun c153 => ?_)
                      · skip
                        refine zA_iconst dX12_refused_161 ?_
                        refine zA_iret dX12_refused_162 rfl ?_
                        have hnm : ¬ (5 ≤ m ∧ ¬ (w 99 (30 * c + d) % 32 ≠ 0)) := fun h => by first | (clear hnu; omega) | exact h.2 c136
                        have hnn := isB_eq hne c68
                        exact ⟨⟨_, rfl, Or.inr (Or.inr (Or.inr (Or.inr (Or.inr (Or.inr ⟨by clear hnu hnn; omega, by clear hnu hnn; omega, hnn, hnu, hnm, by clear hnu hnn; omega, rfl⟩)))))⟩, rfl, rfl⟩
                      · skip
                        refine zA_bipush dX12_refused_156 rfl ?_
                        refine zA_goto (tgt := 162) dX12_refused_158 (by decide) ?_
                        refine zA_iret dX12_refused_162 rfl ?_
                        have hnm : ¬ (5 ≤ m ∧ ¬ (w 99 (30 * c + d) % 32 ≠ 0)) := fun h => by first | (clear hnu; omega) | exact h.2 c136
                        have hnn := isB_eq hne c68
                        exact ⟨⟨_, rfl, Or.inr (Or.inr (Or.inr (Or.inr (Or.inr (Or.inl ⟨by clear hnu hnn; omega, by clear hnu hnn; omega, hnn, hnu, hnm, by clear hnu hnn; omega, rfl⟩)))))⟩, rfl, rfl⟩
                    · skip
                      refine zA_aload_n dX12_refused_121 rfl ?_
                      refine zA_getR (n := 99) dX12_refused_122 fX12_106 c73 rfl ?_
                      refine zA_bipush dX12_refused_125 rfl ?_
                      refine zA_iload_n dX12_refused_127 rfl ?_
                      refine zA_imul dX12_refused_128 ?_
                      refine zA_iload dX12_refused_129 rfl ?_
                      refine zA_iadd dX12_refused_131 ?_
                      refine zA_iaload dX12_refused_132 c99 (by first | assumption | omega) (by first | assumption | omega) (by decide) ?_
                      refine zA_bipush dX12_refused_133 rfl ?_
                      refine zA_iand dX12_refused_135 ?_
                      refine zA_valI (w 99 (30 * c + d) % 32) (iAnd_31) ?_
                      refine zA_if_ne (tgt := 141) dX12_refused_136 (by decide) (by first | assumption | exact hr _ _ | exact inR_mk (by omega) (by omega)) (fun c136 => ?_) (fun c136 => ?_)
                      · skip
                        refine zA_aload_n dX12_refused_141 rfl ?_
                        refine zA_getR (n := 95) dX12_refused_142 fX12_94 c73 rfl ?_
                        refine zA_iload_n dX12_refused_145 rfl ?_
                        refine zA_iaload dX12_refused_146 c95 (by first | assumption | omega) (by first | assumption | omega) (by decide) ?_
                        refine zA_aload_n dX12_refused_147 rfl ?_
                        refine zA_getR (n := 79) dX12_refused_148 fX12_38 c73 rfl ?_
                        refine zA_iload_n dX12_refused_151 rfl ?_
                        refine zA_iaload dX12_refused_152 c79 (by first | assumption | omega) (by first | assumption | omega) (by decide) ?_
                        refine zA_icmp_ge (tgt := 161) dX12_refused_153 (by decide) (by first | assumption | exact hr _ _ | exact inR_mk (by omega) (by omega)) (by first | assumption | exact hr _ _ | exact inR_mk (by omega) (by omega)) (fun c153 => ?_) (fun c153 => ?_)
                        · skip
                          refine zA_iconst dX12_refused_161 ?_
                          refine zA_iret dX12_refused_162 rfl ?_
                          have hnm : ¬ (5 ≤ m ∧ ¬ (w 99 (30 * c + d) % 32 ≠ 0)) := fun h => by first | (clear hnu; omega) | exact h.2 c136
                          have hnn := isB_eq hne c68
                          exact ⟨⟨_, rfl, Or.inr (Or.inr (Or.inr (Or.inr (Or.inr (Or.inr ⟨by clear hnu hnn; omega, by clear hnu hnn; omega, hnn, hnu, hnm, by clear hnu hnn; omega, rfl⟩)))))⟩, rfl, rfl⟩
                        · skip
                          refine zA_bipush dX12_refused_156 rfl ?_
                          refine zA_goto (tgt := 162) dX12_refused_158 (by decide) ?_
                          refine zA_iret dX12_refused_162 rfl ?_
                          have hnm : ¬ (5 ≤ m ∧ ¬ (w 99 (30 * c + d) % 32 ≠ 0)) := fun h => by first | (clear hnu; omega) | exact h.2 c136
                          have hnn := isB_eq hne c68
                          exact ⟨⟨_, rfl, Or.inr (Or.inr (Or.inr (Or.inr (Or.inr (Or.inl ⟨by clear hnu hnn; omega, by clear hnu hnn; omega, hnn, hnu, hnm, by clear hnu hnn; omega, rfl⟩)))))⟩, rfl, rfl⟩
                      · skip
                        refine zA_iconst dX12_refused_139 ?_
                        refine zA_iret dX12_refused_140 rfl ?_
                        exact ⟨⟨_, rfl, Or.inr (Or.inr (Or.inr (Or.inr (Or.inl ⟨by clear hnu; omega, by clear hnu; omega, isB_eq hne c68, hnu, ⟨by omega, fun h => h c136⟩, rfl⟩))))⟩, rfl, rfl⟩
                  · skip
                    refine zA_aload_n dX12_refused_87 rfl ?_
                    refine zA_getR (n := 99) dX12_refused_88 fX12_106 c73 rfl ?_
                    refine zA_bipush dX12_refused_91 rfl ?_
                    refine zA_iload dX12_refused_93 rfl ?_
                    refine zA_imul dX12_refused_95 ?_
                    refine zA_iload dX12_refused_96 rfl ?_
                    refine zA_iadd dX12_refused_98 ?_
                    refine zA_iaload dX12_refused_99 c99 (by first | assumption | omega) (by first | assumption | omega) (by decide) ?_
                    refine zA_iload_n dX12_refused_100 rfl ?_
                    refine zA_ishr dX12_refused_101 ?_
                    refine zA_iconst dX12_refused_102 ?_
                    refine zA_iand dX12_refused_103 ?_
                    refine zA_valI (if tb (w 99 (30 * k + d)) m = true then 1 else 0) (tb_get (hmu _ (by omega) (by omega)).1 (by have := (hmu (30 * k + d) (by omega) (by omega)).2; omega) (by omega) (by omega)) ?_
                    refine zA_iconst dX12_refused_104 ?_
                    refine zA_icmp_ne (tgt := 110) dX12_refused_105 (by decide) (inR_ite _) ⟨by decide, by decide⟩ (fun c105 => ?_) (fun c105 => ?_)
                    · skip
                      refine zA_iinc (lo1 := [zR 73, zI m, zI c, zI r, zI d, zI (k + 1)]) dX12_refused_110 rfl (by decide) rfl rfl ?_
                      refine zA_goto (tgt := 76) dX12_refused_113 (by decide) ?_
                      exact ih76 (k + 1) (by omega) (by omega) (fun j a b => by
                                  by_cases e : j = k
                                  · rw [e]; cases ht : tb (w 99 (30 * k + d)) m with
                                    | false => rfl
                                    | true => rw [if_pos ht] at c105; exact absurd rfl c105
                                  · exact hk j a (by omega)) (by omega)
                    · skip
                      refine zA_iconst dX12_refused_108 ?_
                      refine zA_iret dX12_refused_109 rfl ?_
                      have htk : tb (w 99 (30 * k + d)) m = true := by
                        cases ht : tb (w 99 (30 * k + d)) m with
                        | true => rfl
                        | false => rw [ht] at c105; exact absurd c105 (by decide)
                      exact ⟨⟨_, rfl, Or.inr (Or.inr (Or.inr (Or.inl ⟨by omega, by omega, isB_eq hne c68, ⟨k, ⟨k0, by omega⟩, htk⟩, rfl⟩)))⟩, rfl, rfl⟩
              exact L76 _ 0 (by omega) (by omega) (fun j a b => by omega) (Nat.lt_succ_self _)
            · skip
              refine zA_iconst dX12_refused_71 ?_
              refine zA_iret dX12_refused_72 rfl ?_
              exact ⟨⟨_, rfl, Or.inr (Or.inr (Or.inl ⟨by omega, by omega, isB_ne hne c68, rfl⟩))⟩, rfl, rfl⟩
          · skip
            refine zA_iconst dX12_refused_59 ?_
            refine zA_iret dX12_refused_60 rfl ?_
            exact ⟨⟨_, rfl, Or.inr (Or.inl ⟨by omega, by omega, rfl⟩)⟩, rfl, rfl⟩
        · skip
          replace c40 := zite_eq c40
          refine zA_iconst dX12_refused_43 ?_
          refine zA_iret dX12_refused_44 rfl ?_
          exact ⟨⟨_, rfl, Or.inl ⟨by omega, rfl⟩⟩, rfl, rfl⟩

set_option maxRecDepth 100000 in
set_option maxHeartbeats 4000000 in
theorem m_write {l : Launch} {t dr tx : Nat} {w : zW} {m c r d : Int} (hm : inR m) (hc : inR c) (hrr : inR r) (hd : inR d) (k0 : 0 ≤ w 73 54) (k1 : w 73 54 ≤ 50) : zSp l mX12_write false 1 0 0 [zR 73, zI m, zI c, zI r, zI d] (ZZ t dr tx) w (fun v' S' w' => v' = none ∧ S' = (ZZ t dr tx) ∧ (∀ cc i, cc ≠ 100 → (cc ≠ 73 ∨ i ≠ 54) → w' cc i = w cc i) ∧ w' 73 54 = (min (w 73 54 + 1) 50) ∧ (∀ x : Int, 0 ≤ x → x < 4 * (min (w 73 54 + 1) 50) - 4 → w' 100 x = w 100 (if w 73 54 < 50 then x else x + 4)) ∧ w' 100 (4 * (min (w 73 54 + 1) 50) - 4) = m ∧ w' 100 (4 * (min (w 73 54 + 1) 50) - 3) = c ∧ w' 100 (4 * (min (w 73 54 + 1) 50) - 2) = r ∧ w' 100 (4 * (min (w 73 54 + 1) 50) - 1) = d) zNo := by
  refine zA_intro ⟨plainFor_of_name (by decide +kernel), Or.inl (by decide +kernel)⟩ rfl (Nat.le_of_ble_eq_true rfl) ?_
  refine zA_range (fun hr => ?_)
  show zA l mX12_write false 1 0 0 (fun v' S' w' => v' = none ∧ S' = (ZZ t dr tx) ∧ (∀ cc i, cc ≠ 100 → (cc ≠ 73 ∨ i ≠ 54) → w' cc i = w cc i) ∧ w' 73 54 = (min (w 73 54 + 1) 50) ∧ (∀ x : Int, 0 ≤ x → x < 4 * (min (w 73 54 + 1) 50) - 4 → w' 100 x = w 100 (if w 73 54 < 50 then x else x + 4)) ∧ w' 100 (4 * (min (w 73 54 + 1) 50) - 4) = m ∧ w' 100 (4 * (min (w 73 54 + 1) 50) - 3) = c ∧ w' 100 (4 * (min (w 73 54 + 1) 50) - 2) = r ∧ w' 100 (4 * (min (w 73 54 + 1) 50) - 1) = d) zNo 0 [zR 73, zI m, zI c, zI r, zI d, .null] [] (ZZ t dr tx) w
  refine zA_aload_n dX12_write_0 rfl ?_
  refine zA_getI dX12_write_1 fX12_305 c73 rfl ?_
  refine zA_valI (w 73 54) rfl ?_
  refine zA_bipush dX12_write_4 rfl ?_
  have L52 : ∀ (w3 : zW) (h54 : w3 73 54 = (min (w 73 54 + 1) 50) - 1) (hfr : ∀ cc i, cc ≠ 100 → (cc ≠ 73 ∨ i ≠ 54) → w3 cc i = w cc i) (hl : ∀ x : Int, 0 ≤ x → x < 4 * (min (w 73 54 + 1) 50) - 4 → w3 100 x = w 100 (if w 73 54 < 50 then x else x + 4)), zA l mX12_write false 1 0 0 (fun v' S' w' => v' = none ∧ S' = (ZZ t dr tx) ∧ (∀ cc i, cc ≠ 100 → (cc ≠ 73 ∨ i ≠ 54) → w' cc i = w cc i) ∧ w' 73 54 = (min (w 73 54 + 1) 50) ∧ (∀ x : Int, 0 ≤ x → x < 4 * (min (w 73 54 + 1) 50) - 4 → w' 100 x = w 100 (if w 73 54 < 50 then x else x + 4)) ∧ w' 100 (4 * (min (w 73 54 + 1) 50) - 4) = m ∧ w' 100 (4 * (min (w 73 54 + 1) 50) - 3) = c ∧ w' 100 (4 * (min (w 73 54 + 1) 50) - 2) = r ∧ w' 100 (4 * (min (w 73 54 + 1) 50) - 1) = d) zNo 52 [zR 73, zI m, zI c, zI r, zI d, .null] [] (ZZ t dr tx) w3 := by
    intro w3 h54 hfr hl
    refine zA_range (fun hr => ?_)
    refine zA_aload_n dX12_write_52 rfl ?_
    refine zA_getR (n := 100) dX12_write_53 fX12_109 c73 rfl ?_
    refine zA_iconst dX12_write_56 ?_
    refine zA_aload_n dX12_write_57 rfl ?_
    refine zA_getI dX12_write_58 fX12_305 c73 rfl ?_
    refine zA_valI (w3 73 54) rfl ?_
    refine zA_imul dX12_write_61 ?_
    refine zA_iload_n dX12_write_62 rfl ?_
    refine zA_iastore dX12_write_63 (by first | assumption | exact hr _ _ | exact inR_mk (by omega) (by omega)) c100 (by first | assumption | omega) (by first | assumption | omega) (by decide) ?_
    refine zA_namew (fun w_1 hw_1 => ?_)
    refine zA_range (fun hr => ?_)
    replace hw_1 : w_1 = up w3 100 (4 * (w3 73 54)) m := hw_1
    have x1 : w_1 73 54 = w3 73 54 := by rw [hw_1, up_cell _ _ _ _ (by decide)]
    refine zA_aload_n dX12_write_64 rfl ?_
    refine zA_getR (n := 100) dX12_write_65 fX12_109 c73 rfl ?_
    refine zA_iconst dX12_write_68 ?_
    refine zA_aload_n dX12_write_69 rfl ?_
    refine zA_getI dX12_write_70 fX12_305 c73 rfl ?_
    refine zA_valI (w_1 73 54) rfl ?_
    refine zA_imul dX12_write_73 ?_
    refine zA_iconst dX12_write_74 ?_
    refine zA_iadd dX12_write_75 ?_
    refine zA_iload_n dX12_write_76 rfl ?_
    refine zA_iastore dX12_write_77 (by first | assumption | exact hr _ _ | exact inR_mk (by omega) (by omega)) c100 (by first | assumption | omega) (by first | assumption | omega) (by decide) ?_
    refine zA_namew (fun w_2 hw_2 => ?_)
    refine zA_range (fun hr => ?_)
    replace hw_2 : w_2 = up w_1 100 ((4 * (w_1 73 54)) + 1) c := hw_2
    have x2 : w_2 73 54 = w3 73 54 := by rw [hw_2, up_cell _ _ _ _ (by decide)]; exact x1
    refine zA_aload_n dX12_write_78 rfl ?_
    refine zA_getR (n := 100) dX12_write_79 fX12_109 c73 rfl ?_
    refine zA_iconst dX12_write_82 ?_
    refine zA_aload_n dX12_write_83 rfl ?_
    refine zA_getI dX12_write_84 fX12_305 c73 rfl ?_
    refine zA_valI (w_2 73 54) rfl ?_
    refine zA_imul dX12_write_87 ?_
    refine zA_iconst dX12_write_88 ?_
    refine zA_iadd dX12_write_89 ?_
    refine zA_iload_n dX12_write_90 rfl ?_
    refine zA_iastore dX12_write_91 (by first | assumption | exact hr _ _ | exact inR_mk (by omega) (by omega)) c100 (by first | assumption | omega) (by first | assumption | omega) (by decide) ?_
    refine zA_namew (fun w_3 hw_3 => ?_)
    refine zA_range (fun hr => ?_)
    replace hw_3 : w_3 = up w_2 100 ((4 * (w_2 73 54)) + 2) r := hw_3
    have x3 : w_3 73 54 = w3 73 54 := by rw [hw_3, up_cell _ _ _ _ (by decide)]; exact x2
    refine zA_aload_n dX12_write_92 rfl ?_
    refine zA_getR (n := 100) dX12_write_93 fX12_109 c73 rfl ?_
    refine zA_iconst dX12_write_96 ?_
    refine zA_aload_n dX12_write_97 rfl ?_
    refine zA_getI dX12_write_98 fX12_305 c73 rfl ?_
    refine zA_valI (w_3 73 54) rfl ?_
    refine zA_imul dX12_write_101 ?_
    refine zA_iconst dX12_write_102 ?_
    refine zA_iadd dX12_write_103 ?_
    refine zA_iload dX12_write_104 rfl ?_
    refine zA_iastore dX12_write_106 (by first | assumption | exact hr _ _ | exact inR_mk (by omega) (by omega)) c100 (by first | assumption | omega) (by first | assumption | omega) (by decide) ?_
    refine zA_namew (fun w_4 hw_4 => ?_)
    refine zA_range (fun hr => ?_)
    replace hw_4 : w_4 = up w_3 100 ((4 * (w_3 73 54)) + 3) d := hw_4
    have x4 : w_4 73 54 = w3 73 54 := by rw [hw_4, up_cell _ _ _ _ (by decide)]; exact x3
    refine zA_aload_n dX12_write_107 rfl ?_
    refine zA_dup dX12_write_108 rfl ?_
    refine zA_getI dX12_write_109 fX12_305 c73 rfl ?_
    refine zA_valI (w_4 73 54) rfl ?_
    refine zA_iconst dX12_write_112 ?_
    refine zA_iadd dX12_write_113 ?_
    refine zA_putI dX12_write_114 fX12_305 c73 rfl (by first | assumption | exact hr _ _ | exact inR_mk (by omega) (by omega)) ⟨rfl, rfl⟩ ?_
    refine zA_namew (fun w_5 hw_5 => ?_)
    refine zA_range (fun hr => ?_)
    replace hw_5 : w_5 = up w_4 73 54 ((w_4 73 54) + 1) := hw_5
    refine zA_vret dX12_write_117 rfl ?_
    have hn : w3 73 54 = (min (w 73 54 + 1) 50) - 1 := h54
    have hv : ∀ x, w_5 100 x = (if x = 4 * (w3 73 54) + 3 then d else if x = 4 * (w3 73 54) + 2 then r else if x = 4 * (w3 73 54) + 1 then c else if x = 4 * (w3 73 54) then m else w3 100 x) := fun x => by
      rw [hw_5, up_cell _ _ _ _ (by decide), hw_4, x3, hw_3, x2, hw_2, x1, hw_1]
      unfold up
      simp only [true_and]
    refine ⟨rfl, rfl, fun cc i a b => ?_, by rw [hw_5, up_same]; omega, fun x a b => ?_, ?_, ?_, ?_, ?_⟩
    · rw [hw_5, up_ne a b, hw_4, up_cell _ _ _ _ a, hw_3, up_cell _ _ _ _ a, hw_2, up_cell _ _ _ _ a, hw_1, up_cell _ _ _ _ a]; exact hfr cc i a b
    · rw [hv, if_neg (by omega), if_neg (by omega), if_neg (by omega), if_neg (by omega)]; exact hl x a b
    · rw [hv, if_neg (by omega), if_neg (by omega), if_neg (by omega), if_pos (by omega)]
    · rw [hv, if_neg (by omega), if_neg (by omega), if_pos (by omega)]
    · rw [hv, if_neg (by omega), if_pos (by omega)]
    · rw [hv, if_pos (by omega)]
  refine zA_icmp_ne (tgt := 52) dX12_write_6 (by decide) (by first | assumption | exact hr _ _ | exact inR_mk (by omega) (by omega)) ⟨by decide, by decide⟩ (fun c6 => ?_) (fun c6 => ?_)
  · skip
    exact L52 w (by omega) (fun _ _ _ _ => rfl) (fun x a b => by rw [if_pos (by omega)])
  · skip
    refine zA_iconst dX12_write_9 ?_
    refine zA_istore (lo1 := [zR 73, zI m, zI c, zI r, zI d, zI 0]) dX12_write_10 (by decide) rfl rfl ?_
    have L12 : ∀ (z12 : Nat) (i : Int) (w1 : zW) (i0 : 0 ≤ i) (i1 : i ≤ 196) (hf : only 100 w w1) (ha : ∀ x : Int, 0 ≤ x → x < i → w1 100 x = w 100 (x + 4)) (hb : ∀ x : Int, i ≤ x → w1 100 x = w 100 x) (zm : (196 - i).toNat < z12), zA l mX12_write false 1 0 0 (fun v' S' w' => v' = none ∧ S' = (ZZ t dr tx) ∧ (∀ cc i, cc ≠ 100 → (cc ≠ 73 ∨ i ≠ 54) → w' cc i = w cc i) ∧ w' 73 54 = (min (w 73 54 + 1) 50) ∧ (∀ x : Int, 0 ≤ x → x < 4 * (min (w 73 54 + 1) 50) - 4 → w' 100 x = w 100 (if w 73 54 < 50 then x else x + 4)) ∧ w' 100 (4 * (min (w 73 54 + 1) 50) - 4) = m ∧ w' 100 (4 * (min (w 73 54 + 1) 50) - 3) = c ∧ w' 100 (4 * (min (w 73 54 + 1) 50) - 2) = r ∧ w' 100 (4 * (min (w 73 54 + 1) 50) - 1) = d) zNo 12 [zR 73, zI m, zI c, zI r, zI d, zI i] [] (ZZ t dr tx) w1 := by
      intro z12
      induction z12 with
      | zero => intro i w1 i0 i1 hf ha hb zm; exact absurd zm (Nat.not_lt_zero _)
      | succ z12 ih12 =>
        intro i w1 i0 i1 hf ha hb zm
        refine zA_range (fun hr => ?_)
        refine zA_iload dX12_write_12 rfl ?_
        refine zA_sipush dX12_write_14 rfl ?_
        refine zA_icmp_ge (tgt := 42) dX12_write_17 (by decide) (by first | assumption | exact hr _ _ | exact inR_mk (by omega) (by omega)) ⟨by decide, by decide⟩ (fun c17 => ?_) (fun c17 => ?_)
        · skip
          have e54 : w1 73 54 = w 73 54 := hf 73 54 (by decide)
          refine zA_aload_n dX12_write_42 rfl ?_
          refine zA_dup dX12_write_43 rfl ?_
          refine zA_getI dX12_write_44 fX12_305 c73 rfl ?_
          refine zA_valI (w1 73 54) rfl ?_
          refine zA_iconst dX12_write_47 ?_
          refine zA_isub dX12_write_48 ?_
          refine zA_putI dX12_write_49 fX12_305 c73 rfl (by first | assumption | exact hr _ _ | exact inR_mk (by omega) (by omega)) ⟨rfl, rfl⟩ ?_
          refine zA_namew (fun w_6 hw_6 => ?_)
          refine zA_range (fun hr => ?_)
          replace hw_6 : w_6 = up w1 73 54 ((w1 73 54) - 1) := hw_6
          refine zA_drop 5 (lo1 := [zR 73, zI m, zI c, zI r, zI d, .null]) rfl ?_
          exact L52 w_6 (by rw [hw_6, up_same]; have := hf 73 54 (by decide); omega) (fun cc i a b => by rw [hw_6, up_ne a b]; exact hf cc i a) (fun x a b => by rw [if_neg (by omega), hw_6, up_cell _ _ _ _ (by decide)]; exact ha x a (by omega))
        · skip
          refine zA_aload_n dX12_write_20 rfl ?_
          refine zA_getR (n := 100) dX12_write_21 fX12_109 c73 rfl ?_
          refine zA_iload dX12_write_24 rfl ?_
          refine zA_aload_n dX12_write_26 rfl ?_
          refine zA_getR (n := 100) dX12_write_27 fX12_109 c73 rfl ?_
          refine zA_iload dX12_write_30 rfl ?_
          refine zA_iconst dX12_write_32 ?_
          refine zA_iadd dX12_write_33 ?_
          refine zA_iaload dX12_write_34 c100 (by first | assumption | omega) (by first | assumption | omega) (by decide) ?_
          refine zA_iastore dX12_write_35 (by first | assumption | exact hr _ _ | exact inR_mk (by omega) (by omega)) c100 (by first | assumption | omega) (by first | assumption | omega) (by decide) ?_
          refine zA_namew (fun w_7 hw_7 => ?_)
          refine zA_range (fun hr => ?_)
          replace hw_7 : w_7 = up w1 100 i (w1 100 (i + 4)) := hw_7
          refine zA_iinc (lo1 := [zR 73, zI m, zI c, zI r, zI d, zI (i + 1)]) dX12_write_36 rfl (by decide) rfl rfl ?_
          refine zA_goto (tgt := 12) dX12_write_39 (by decide) ?_
          exact ih12 (i + 1) _ (by omega) (by omega) (by rw [hw_7]; exact only_up hf) (fun x a b => by
                      rw [hw_7]
                      by_cases e : x = i
                      · rw [e, up_same]; exact hb _ (by omega)
                      · rw [up_idx _ _ _ _ e]; exact ha x a (by omega)) (fun x a => by rw [hw_7, up_idx _ _ _ _ (by omega)]; exact hb x (by omega)) (by omega)
    exact L12 _ 0 w (by omega) (by omega) only_rfl (fun x a b => by omega) (fun x a => rfl) (Nat.lt_succ_self _)

