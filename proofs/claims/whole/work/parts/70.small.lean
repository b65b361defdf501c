/-! small ones: planned, tokens' kinds, faults -/
set_option maxRecDepth 100000 in
set_option maxHeartbeats 4000000 in
theorem m_planned {l : Launch} {t dr tx : Nat} {w : zW} {o k : Int} (ho : inR o) (hk : inR k) (h0 : -1 ≤ w 73 26) (h1 : w 73 26 ≤ 8) : zSp l mX12_planned false 3 0 0 [zR 73, zI o, zI k] (ZZ t dr tx) w (zMq (¬ (w 73 26 ≠ -1 ∧ (0 ≤ k ∧ k < 2) ∧ -1 ≤ o ∧ o < w 73 26)) False (if o = -1 then (if k = 0 then w 73 26 else w 73 28) else if k = 0 then w 87 o else w 88 o) (ZZ t dr tx) w (up w 73 1 0)) zNo := by
  refine zA_intro ⟨plainFor_of_name (by decide +kernel), Or.inl (by decide +kernel)⟩ rfl (Nat.le_of_ble_eq_true rfl) ?_
  refine zA_range (fun hr => ?_)
  show zA l mX12_planned false 3 0 0 (zMq (¬ (w 73 26 ≠ -1 ∧ (0 ≤ k ∧ k < 2) ∧ -1 ≤ o ∧ o < w 73 26)) False (if o = -1 then (if k = 0 then w 73 26 else w 73 28) else if k = 0 then w 87 o else w 88 o) (ZZ t dr tx) w (up w 73 1 0)) zNo 0 [zR 73, zI o, zI k] [] (ZZ t dr tx) w
  refine zA_aload_n dX12_planned_0 rfl ?_
  refine zA_iconst dX12_planned_1 ?_
  refine zA_putI dX12_planned_2 fX12_182 c73 rfl ⟨by decide, by decide⟩ ⟨rfl, rfl⟩ ?_
  refine zA_namew (fun w_1 hw_1 => ?_)
  refine zA_range (fun hr => ?_)
  replace hw_1 : w_1 = up w 73 1 0 := hw_1
  have e73 : ∀ i, i ≠ 1 → w_1 73 i = w 73 i := fun i h => by rw [hw_1, up_idx _ _ _ _ h]
  have ef : ∀ cc i, cc ≠ 73 → w_1 cc i = w cc i := fun cc i h => by rw [hw_1, up_cell _ _ _ _ h]
  have f26 : w_1 73 26 = w 73 26 := e73 26 (by decide)
  have f28 : w_1 73 28 = w 73 28 := e73 28 (by decide)
  refine zA_aload_n dX12_planned_5 rfl ?_
  refine zA_getI dX12_planned_6 fX12_69 c73 rfl ?_
  refine zA_valI (w_1 73 26) rfl ?_
  refine zA_iconst dX12_planned_9 ?_
  refine zA_icmp_eq (tgt := 36) dX12_planned_10 (by decide) (by first | assumption | exact hr _ _ | exact inR_mk (by omega) (by omega)) ⟨by decide, by decide⟩ (fun c10 => ?_) (fun c10 => ?_)
  · skip
    refine zA_aload_n dX12_planned_36 rfl ?_
    refine zA_iconst dX12_planned_37 ?_
    refine zA_cV (st := []) dX12_planned_38 vX12_fail kX12_292 (m_fail (w := w_1) (k := 1) ⟨by decide, by decide⟩) (by decide) c73 rfl rfl (Nat.le_of_ble_eq_true rfl) rfl (zRt_el ?_)
    show zA l mX12_planned false 3 0 0 (zMq (¬ (w 73 26 ≠ -1 ∧ (0 ≤ k ∧ k < 2) ∧ -1 ≤ o ∧ o < w 73 26)) False (if o = -1 then (if k = 0 then w 73 26 else w 73 28) else if k = 0 then w 87 o else w 88 o) (ZZ t dr tx) w (up w 73 1 0)) zNo 41 [zR 73, zI o, zI k] [zI 0] (ZZ t dr tx) (up w_1 73 1 1)
    refine zA_iret dX12_planned_41 rfl ?_
    exact ⟨rfl, Or.inl ⟨by omega, rfl, by rw [hw_1, up_up]⟩⟩
  · skip
    refine zA_iload_n dX12_planned_13 rfl ?_
    refine zA_if_lt (tgt := 36) dX12_planned_14 (by decide) (by first | assumption | exact hr _ _ | exact inR_mk (by omega) (by omega)) (fun c14 => ?_) (fun c14 => ?_)
    · skip
      refine zA_aload_n dX12_planned_36 rfl ?_
      refine zA_iconst dX12_planned_37 ?_
      refine zA_cV (st := []) dX12_planned_38 vX12_fail kX12_292 (m_fail (w := w_1) (k := 1) ⟨by decide, by decide⟩) (by decide) c73 rfl rfl (Nat.le_of_ble_eq_true rfl) rfl (zRt_el ?_)
      show zA l mX12_planned false 3 0 0 (zMq (¬ (w 73 26 ≠ -1 ∧ (0 ≤ k ∧ k < 2) ∧ -1 ≤ o ∧ o < w 73 26)) False (if o = -1 then (if k = 0 then w 73 26 else w 73 28) else if k = 0 then w 87 o else w 88 o) (ZZ t dr tx) w (up w 73 1 0)) zNo 41 [zR 73, zI o, zI k] [zI 0] (ZZ t dr tx) (up w_1 73 1 1)
      refine zA_iret dX12_planned_41 rfl ?_
      exact ⟨rfl, Or.inl ⟨by omega, rfl, by rw [hw_1, up_up]⟩⟩
    · skip
      refine zA_iload_n dX12_planned_17 rfl ?_
      refine zA_iconst dX12_planned_18 ?_
      refine zA_icmp_gt (tgt := 36) dX12_planned_19 (by decide) (by first | assumption | exact hr _ _ | exact inR_mk (by omega) (by omega)) ⟨by decide, by decide⟩ (fun c19 => ?_) (fun c19 => ?_)
      · skip
        refine zA_aload_n dX12_planned_36 rfl ?_
        refine zA_iconst dX12_planned_37 ?_
        refine zA_cV (st := []) dX12_planned_38 vX12_fail kX12_292 (m_fail (w := w_1) (k := 1) ⟨by decide, by decide⟩) (by decide) c73 rfl rfl (Nat.le_of_ble_eq_true rfl) rfl (zRt_el ?_)
        show zA l mX12_planned false 3 0 0 (zMq (¬ (w 73 26 ≠ -1 ∧ (0 ≤ k ∧ k < 2) ∧ -1 ≤ o ∧ o < w 73 26)) False (if o = -1 then (if k = 0 then w 73 26 else w 73 28) else if k = 0 then w 87 o else w 88 o) (ZZ t dr tx) w (up w 73 1 0)) zNo 41 [zR 73, zI o, zI k] [zI 0] (ZZ t dr tx) (up w_1 73 1 1)
        refine zA_iret dX12_planned_41 rfl ?_
        exact ⟨rfl, Or.inl ⟨by omega, rfl, by rw [hw_1, up_up]⟩⟩
      · skip
        refine zA_iload_n dX12_planned_22 rfl ?_
        refine zA_iconst dX12_planned_23 ?_
        refine zA_aload_n dX12_planned_24 rfl ?_
        refine zA_getI dX12_planned_25 fX12_69 c73 rfl ?_
        refine zA_valI (w_1 73 26) rfl ?_
        refine zA_iconst dX12_planned_28 ?_
        refine zA_isub dX12_planned_29 ?_
        refine zA_cS (st := []) dX12_planned_30 sX12_isIn kX12_185 (m_isIn (w := w_1) (a := o) (b := (-1)) (e := ((w_1 73 26) - 1)) (by first | assumption | exact hr _ _ | exact inR_mk (by omega) (by omega)) ⟨by decide, by decide⟩ (by first | assumption | exact hr _ _ | exact inR_mk (by omega) (by omega))) (by decide) rfl rfl (Nat.le_of_ble_eq_true rfl) (zRt_el ?_)
        show zA l mX12_planned false 3 0 0 (zMq (¬ (w 73 26 ≠ -1 ∧ (0 ≤ k ∧ k < 2) ∧ -1 ≤ o ∧ o < w 73 26)) False (if o = -1 then (if k = 0 then w 73 26 else w 73 28) else if k = 0 then w 87 o else w 88 o) (ZZ t dr tx) w (up w 73 1 0)) zNo 33 [zR 73, zI o, zI k] [zI (if (-1) ≤ o ∧ o ≤ ((w_1 73 26) - 1) then 1 else 0)] (ZZ t dr tx) w_1
        refine zA_if_ne (tgt := 42) dX12_planned_33 (by decide) (inR_ite _) (fun c33 => ?_) (fun c33 => ?_)
        · skip
          replace c33 := zite_ne c33
          refine zA_iload_n dX12_planned_42 rfl ?_
          refine zA_iconst dX12_planned_43 ?_
          refine zA_icmp_ne (tgt := 63) dX12_planned_44 (by decide) (by first | assumption | exact hr _ _ | exact inR_mk (by omega) (by omega)) ⟨by decide, by decide⟩ (fun c44 => ?_) (fun c44 => ?_)
          · skip
            refine zA_iload_n dX12_planned_63 rfl ?_
            refine zA_if_ne (tgt := 76) dX12_planned_64 (by decide) (by first | assumption | exact hr _ _ | exact inR_mk (by omega) (by omega)) (fun c64 => ?_) (fun c64 => ?_)
            · skip
              refine zA_aload_n dX12_planned_76 rfl ?_
              refine zA_getR (n := 88) dX12_planned_77 fX12_66 c73 rfl ?_
              refine zA_iload_n dX12_planned_80 rfl ?_
              refine zA_iaload dX12_planned_81 c88 (by first | assumption | omega) (by first | assumption | omega) (by decide) ?_
              refine zA_iret dX12_planned_82 rfl ?_
              refine ⟨rfl, Or.inr (Or.inr ⟨by omega, fun h => h, ?_, hw_1⟩)⟩
              congr 2
              first
              | rw [if_pos (by omega), if_pos (by omega), f26]
              | rw [if_pos (by omega), if_neg (by omega), f28]
              | rw [if_neg (by omega), if_pos (by omega), ef 87 _ (by decide)]
              | rw [if_neg (by omega), if_neg (by omega), ef 88 _ (by decide)]
            · skip
              refine zA_aload_n dX12_planned_67 rfl ?_
              refine zA_getR (n := 87) dX12_planned_68 fX12_63 c73 rfl ?_
              refine zA_iload_n dX12_planned_71 rfl ?_
              refine zA_iaload dX12_planned_72 c87 (by first | assumption | omega) (by first | assumption | omega) (by decide) ?_
              refine zA_goto (tgt := 82) dX12_planned_73 (by decide) ?_
              refine zA_iret dX12_planned_82 rfl ?_
              refine ⟨rfl, Or.inr (Or.inr ⟨by omega, fun h => h, ?_, hw_1⟩)⟩
              congr 2
              first
              | rw [if_pos (by omega), if_pos (by omega), f26]
              | rw [if_pos (by omega), if_neg (by omega), f28]
              | rw [if_neg (by omega), if_pos (by omega), ef 87 _ (by decide)]
              | rw [if_neg (by omega), if_neg (by omega), ef 88 _ (by decide)]
          · skip
            refine zA_iload_n dX12_planned_47 rfl ?_
            refine zA_if_ne (tgt := 58) dX12_planned_48 (by decide) (by first | assumption | exact hr _ _ | exact inR_mk (by omega) (by omega)) (fun c48 => ?_) (fun c48 => ?_)
            · skip
              refine zA_aload_n dX12_planned_58 rfl ?_
              refine zA_getI dX12_planned_59 fX12_337 c73 rfl ?_
              refine zA_valI (w_1 73 28) rfl ?_
              refine zA_iret dX12_planned_62 rfl ?_
              refine ⟨rfl, Or.inr (Or.inr ⟨by omega, fun h => h, ?_, hw_1⟩)⟩
              congr 2
              first
              | rw [if_pos (by omega), if_pos (by omega), f26]
              | rw [if_pos (by omega), if_neg (by omega), f28]
              | rw [if_neg (by omega), if_pos (by omega), ef 87 _ (by decide)]
              | rw [if_neg (by omega), if_neg (by omega), ef 88 _ (by decide)]
            · skip
              refine zA_aload_n dX12_planned_51 rfl ?_
              refine zA_getI dX12_planned_52 fX12_69 c73 rfl ?_
              refine zA_valI (w_1 73 26) rfl ?_
              refine zA_goto (tgt := 62) dX12_planned_55 (by decide) ?_
              refine zA_iret dX12_planned_62 rfl ?_
              refine ⟨rfl, Or.inr (Or.inr ⟨by omega, fun h => h, ?_, hw_1⟩)⟩
              congr 2
              first
              | rw [if_pos (by omega), if_pos (by omega), f26]
              | rw [if_pos (by omega), if_neg (by omega), f28]
              | rw [if_neg (by omega), if_pos (by omega), ef 87 _ (by decide)]
              | rw [if_neg (by omega), if_neg (by omega), ef 88 _ (by decide)]
        · skip
          replace c33 := zite_eq c33
          refine zA_aload_n dX12_planned_36 rfl ?_
          refine zA_iconst dX12_planned_37 ?_
          refine zA_cV (st := []) dX12_planned_38 vX12_fail kX12_292 (m_fail (w := w_1) (k := 1) ⟨by decide, by decide⟩) (by decide) c73 rfl rfl (Nat.le_of_ble_eq_true rfl) rfl (zRt_el ?_)
          show zA l mX12_planned false 3 0 0 (zMq (¬ (w 73 26 ≠ -1 ∧ (0 ≤ k ∧ k < 2) ∧ -1 ≤ o ∧ o < w 73 26)) False (if o = -1 then (if k = 0 then w 73 26 else w 73 28) else if k = 0 then w 87 o else w 88 o) (ZZ t dr tx) w (up w 73 1 0)) zNo 41 [zR 73, zI o, zI k] [zI 0] (ZZ t dr tx) (up w_1 73 1 1)
          refine zA_iret dX12_planned_41 rfl ?_
          exact ⟨rfl, Or.inl ⟨by omega, rfl, by rw [hw_1, up_up]⟩⟩

set_option maxRecDepth 100000 in
set_option maxHeartbeats 4000000 in
theorem m_byteAt {l : Launch} {t dr tx : Nat} {w : zW} {k : Int} (k0 : 0 ≤ k) (k1 : k ≤ 600) (hs : w 73 14 ≤ 600) : zSp l mX12_byteAt false 1 0 0 [zR 73, zI k] (ZZ t dr tx) w (zRt (some (zI (if k < w 73 14 then w 84 k else -1))) (ZZ t dr tx) w) zNo := by
  refine zA_intro ⟨plainFor_of_name (by decide +kernel), Or.inl (by decide +kernel)⟩ rfl (Nat.le_of_ble_eq_true rfl) ?_
  refine zA_range (fun hr => ?_)
  show zA l mX12_byteAt false 1 0 0 (zRt (some (zI (if k < w 73 14 then w 84 k else -1))) (ZZ t dr tx) w) zNo 0 [zR 73, zI k] [] (ZZ t dr tx) w
  refine zA_iload_n dX12_byteAt_0 rfl ?_
  refine zA_aload_n dX12_byteAt_1 rfl ?_
  refine zA_getI dX12_byteAt_2 fX12_192 c73 rfl ?_
  refine zA_valI (w 73 14) rfl ?_
  refine zA_icmp_ge (tgt := 17) dX12_byteAt_5 (by decide) (by first | assumption | exact hr _ _ | exact inR_mk (by omega) (by omega)) (by first | assumption | exact hr _ _ | exact inR_mk (by omega) (by omega)) (fun c5 => ?_) (fun c5 => ?_)
  · skip
    refine zA_iconst dX12_byteAt_17 ?_
    refine zA_iret dX12_byteAt_18 rfl ?_
    exact zRt_i (by split <;> first | rfl | omega)
  · skip
    refine zA_aload_n dX12_byteAt_8 rfl ?_
    refine zA_getR (n := 84) dX12_byteAt_9 fX12_50 c73 rfl ?_
    refine zA_iload_n dX12_byteAt_12 rfl ?_
    refine zA_iaload dX12_byteAt_13 c84 (by first | assumption | omega) (by first | assumption | omega) (by decide) ?_
    refine zA_goto (tgt := 18) dX12_byteAt_14 (by decide) ?_
    refine zA_iret dX12_byteAt_18 rfl ?_
    exact zRt_i (by split <;> first | rfl | omega)

set_option maxRecDepth 100000 in
set_option maxHeartbeats 4000000 in
theorem m_isSmall {l : Launch} {w : zW} {S : zS} {k : Int} (hk : inR k) : zSp l mX12_isSmall false 1 0 0 [zI k] S w (zRt (some (zI (if 97 ≤ k ∧ k ≤ 122 then 1 else 0))) S w) zNo := by
  refine zA_intro ⟨plainFor_of_name (by decide +kernel), Or.inl (by decide +kernel)⟩ rfl (Nat.le_of_ble_eq_true rfl) ?_
  refine zA_range (fun hr => ?_)
  show zA l mX12_isSmall false 1 0 0 (zRt (some (zI (if 97 ≤ k ∧ k ≤ 122 then 1 else 0))) S w) zNo 0 [zI k] [] S w
  refine zA_iload_n dX12_isSmall_0 rfl ?_
  refine zA_bipush dX12_isSmall_1 rfl ?_
  refine zA_icmp_lt (tgt := 16) dX12_isSmall_3 (by decide) (by first | assumption | exact hr _ _ | exact inR_mk (by omega) (by omega)) ⟨by decide, by decide⟩ (fun c3 => ?_) (fun c3 => ?_)
  · skip
    refine zA_iconst dX12_isSmall_16 ?_
    refine zA_zret dX12_isSmall_17 rfl (Or.inl rfl) ?_
    exact zRt_i (by split <;> first | rfl | omega)
  · skip
    refine zA_iload_n dX12_isSmall_6 rfl ?_
    refine zA_bipush dX12_isSmall_7 rfl ?_
    refine zA_icmp_gt (tgt := 16) dX12_isSmall_9 (by decide) (by first | assumption | exact hr _ _ | exact inR_mk (by omega) (by omega)) ⟨by decide, by decide⟩ (fun c9 => ?_) (fun c9 => ?_)
    · skip
      refine zA_iconst dX12_isSmall_16 ?_
      refine zA_zret dX12_isSmall_17 rfl (Or.inl rfl) ?_
      exact zRt_i (by split <;> first | rfl | omega)
    · skip
      refine zA_iconst dX12_isSmall_12 ?_
      refine zA_goto (tgt := 17) dX12_isSmall_13 (by decide) ?_
      refine zA_zret dX12_isSmall_17 rfl (Or.inr rfl) ?_
      exact zRt_i (by split <;> first | rfl | omega)

set_option maxRecDepth 100000 in
set_option maxHeartbeats 4000000 in
theorem m_isFigure {l : Launch} {w : zW} {S : zS} {k : Int} (hk : inR k) : zSp l mX12_isFigure false 1 0 0 [zI k] S w (zRt (some (zI (if 48 ≤ k ∧ k ≤ 57 then 1 else 0))) S w) zNo := by
  refine zA_intro ⟨plainFor_of_name (by decide +kernel), Or.inl (by decide +kernel)⟩ rfl (Nat.le_of_ble_eq_true rfl) ?_
  refine zA_range (fun hr => ?_)
  show zA l mX12_isFigure false 1 0 0 (zRt (some (zI (if 48 ≤ k ∧ k ≤ 57 then 1 else 0))) S w) zNo 0 [zI k] [] S w
  refine zA_iload_n dX12_isFigure_0 rfl ?_
  refine zA_bipush dX12_isFigure_1 rfl ?_
  refine zA_icmp_lt (tgt := 16) dX12_isFigure_3 (by decide) (by first | assumption | exact hr _ _ | exact inR_mk (by omega) (by omega)) ⟨by decide, by decide⟩ (fun c3 => ?_) (fun c3 => ?_)
  · skip
    refine zA_iconst dX12_isFigure_16 ?_
    refine zA_zret dX12_isFigure_17 rfl (Or.inl rfl) ?_
    exact zRt_i (by split <;> first | rfl | omega)
  · skip
    refine zA_iload_n dX12_isFigure_6 rfl ?_
    refine zA_bipush dX12_isFigure_7 rfl ?_
    refine zA_icmp_gt (tgt := 16) dX12_isFigure_9 (by decide) (by first | assumption | exact hr _ _ | exact inR_mk (by omega) (by omega)) ⟨by decide, by decide⟩ (fun c9 => ?_) (fun c9 => ?_)
    · skip
      refine zA_iconst dX12_isFigure_16 ?_
      refine zA_zret dX12_isFigure_17 rfl (Or.inl rfl) ?_
      exact zRt_i (by split <;> first | rfl | omega)
    · skip
      refine zA_iconst dX12_isFigure_12 ?_
      refine zA_goto (tgt := 17) dX12_isFigure_13 (by decide) ?_
      refine zA_zret dX12_isFigure_17 rfl (Or.inr rfl) ?_
      exact zRt_i (by split <;> first | rfl | omega)

set_option maxRecDepth 100000 in
set_option maxHeartbeats 4000000 in
theorem m_wrong {l : Launch} {t dr tx : Nat} {w : zW} {k : Int} (hk : inR k) : zSp l mX12_wrong false 1 0 0 [zR 73, zI k] (ZZ t dr tx) w (fun v' S' w' => v' = none ∧ S' = (ZZ t dr tx) ∧ w' = (if w 73 19 ≠ 0 then w else up (up w 73 19 k) 73 20 (w 73 17))) zNo := by
  refine zA_intro ⟨plainFor_of_name (by decide +kernel), Or.inl (by decide +kernel)⟩ rfl (Nat.le_of_ble_eq_true rfl) ?_
  refine zA_range (fun hr => ?_)
  show zA l mX12_wrong false 1 0 0 (fun v' S' w' => v' = none ∧ S' = (ZZ t dr tx) ∧ w' = (if w 73 19 ≠ 0 then w else up (up w 73 19 k) 73 20 (w 73 17))) zNo 0 [zR 73, zI k] [] (ZZ t dr tx) w
  refine zA_aload_n dX12_wrong_0 rfl ?_
  refine zA_getI dX12_wrong_1 fX12_228 c73 rfl ?_
  refine zA_valI (w 73 19) rfl ?_
  refine zA_if_eq (tgt := 8) dX12_wrong_4 (by decide) (by first | assumption | exact hr _ _ | exact inR_mk (by omega) (by omega)) (fun c4 => ?_) (fun c4 => ?_)
  · skip
    refine zA_aload_n dX12_wrong_8 rfl ?_
    refine zA_iload_n dX12_wrong_9 rfl ?_
    refine zA_putI dX12_wrong_10 fX12_228 c73 rfl (by first | assumption | exact hr _ _ | exact inR_mk (by omega) (by omega)) ⟨rfl, rfl⟩ ?_
    refine zA_namew (fun w_1 hw_1 => ?_)
    refine zA_range (fun hr => ?_)
    replace hw_1 : w_1 = up w 73 19 k := hw_1
    refine zA_aload_n dX12_wrong_13 rfl ?_
    refine zA_aload_n dX12_wrong_14 rfl ?_
    refine zA_getI dX12_wrong_15 fX12_202 c73 rfl ?_
    refine zA_valI (w_1 73 17) rfl ?_
    refine zA_putI dX12_wrong_18 fX12_231 c73 rfl (by first | assumption | exact hr _ _ | exact inR_mk (by omega) (by omega)) ⟨rfl, rfl⟩ ?_
    refine zA_namew (fun w_2 hw_2 => ?_)
    refine zA_range (fun hr => ?_)
    replace hw_2 : w_2 = up w_1 73 20 (w_1 73 17) := hw_2
    refine zA_vret dX12_wrong_21 rfl ?_
    refine ⟨rfl, rfl, ?_⟩
    rw [if_neg (by omega), hw_2, hw_1, up_idx _ _ _ _ (by decide)]
  · skip
    refine zA_vret dX12_wrong_7 rfl ?_
    exact ⟨rfl, rfl, by rw [if_pos (by omega)]⟩

def kdOf (c : Int) : Int := if 97 ≤ c ∧ c ≤ 122 then 1 else if 48 ≤ c ∧ c ≤ 57 then 2 else if c = 32 ∨ c = 10 then 5 else if c = 59 then 3 else 4
set_option maxRecDepth 100000 in
set_option maxHeartbeats 4000000 in
theorem s_kindOf {l : Launch} {w : zW} {S : zS} {c : Int} (hc : inR c) : zSp l mX8_kindOf false 1 0 0 [zI c] S w (zRt (some (zI (kdOf c))) S w) zNo := by
  refine zA_intro ⟨plainFor_of_name (by decide +kernel), Or.inl (by decide +kernel)⟩ rfl (Nat.le_of_ble_eq_true rfl) ?_
  refine zA_range (fun hr => ?_)
  show zA l mX8_kindOf false 1 0 0 (zRt (some (zI (kdOf c))) S w) zNo 0 [zI c] [] S w
  refine zA_iload_n dX8_kindOf_0 rfl ?_
  refine zA_bipush dX8_kindOf_1 rfl ?_
  refine zA_icmp_lt (tgt := 14) dX8_kindOf_3 (by decide) (by first | assumption | exact hr _ _ | exact inR_mk (by omega) (by omega)) ⟨by decide, by decide⟩ (fun c3 => ?_) (fun c3 => ?_)
  · skip
    refine zA_iload_n dX8_kindOf_14 rfl ?_
    refine zA_bipush dX8_kindOf_15 rfl ?_
    refine zA_icmp_lt (tgt := 28) dX8_kindOf_17 (by decide) (by first | assumption | exact hr _ _ | exact inR_mk (by omega) (by omega)) ⟨by decide, by decide⟩ (fun c17 => ?_) (fun c17 => ?_)
    · skip
      refine zA_iload_n dX8_kindOf_28 rfl ?_
      refine zA_bipush dX8_kindOf_29 rfl ?_
      refine zA_icmp_eq (tgt := 40) dX8_kindOf_31 (by decide) (by first | assumption | exact hr _ _ | exact inR_mk (by omega) (by omega)) ⟨by decide, by decide⟩ (fun c31 => ?_) (fun c31 => ?_)
      · skip
        refine zA_iconst dX8_kindOf_40 ?_
        refine zA_iret dX8_kindOf_41 rfl ?_
        exact zRt_i (by unfold kdOf; split <;> first | omega | (split <;> first | omega | (split <;> first | omega | (split <;> omega))))
      · skip
        refine zA_iload_n dX8_kindOf_34 rfl ?_
        refine zA_bipush dX8_kindOf_35 rfl ?_
        refine zA_icmp_ne (tgt := 42) dX8_kindOf_37 (by decide) (by first | assumption | exact hr _ _ | exact inR_mk (by omega) (by omega)) ⟨by decide, by decide⟩ (fun c37 => ?_) (fun c37 => ?_)
        · skip
          refine zA_iload_n dX8_kindOf_42 rfl ?_
          refine zA_bipush dX8_kindOf_43 rfl ?_
          refine zA_icmp_ne (tgt := 52) dX8_kindOf_45 (by decide) (by first | assumption | exact hr _ _ | exact inR_mk (by omega) (by omega)) ⟨by decide, by decide⟩ (fun c45 => ?_) (fun c45 => ?_)
          · skip
            refine zA_iconst dX8_kindOf_52 ?_
            refine zA_iret dX8_kindOf_53 rfl ?_
            exact zRt_i (by unfold kdOf; split <;> first | omega | (split <;> first | omega | (split <;> first | omega | (split <;> omega))))
          · skip
            refine zA_iconst dX8_kindOf_48 ?_
            refine zA_goto (tgt := 53) dX8_kindOf_49 (by decide) ?_
            refine zA_iret dX8_kindOf_53 rfl ?_
            exact zRt_i (by unfold kdOf; split <;> first | omega | (split <;> first | omega | (split <;> first | omega | (split <;> omega))))
        · skip
          refine zA_iconst dX8_kindOf_40 ?_
          refine zA_iret dX8_kindOf_41 rfl ?_
          exact zRt_i (by unfold kdOf; split <;> first | omega | (split <;> first | omega | (split <;> first | omega | (split <;> omega))))
    · skip
      refine zA_iload_n dX8_kindOf_20 rfl ?_
      refine zA_bipush dX8_kindOf_21 rfl ?_
      refine zA_icmp_gt (tgt := 28) dX8_kindOf_23 (by decide) (by first | assumption | exact hr _ _ | exact inR_mk (by omega) (by omega)) ⟨by decide, by decide⟩ (fun c23 => ?_) (fun c23 => ?_)
      · skip
        refine zA_iload_n dX8_kindOf_28 rfl ?_
        refine zA_bipush dX8_kindOf_29 rfl ?_
        refine zA_icmp_eq (tgt := 40) dX8_kindOf_31 (by decide) (by first | assumption | exact hr _ _ | exact inR_mk (by omega) (by omega)) ⟨by decide, by decide⟩ (fun c31 => ?_) (fun c31 => ?_)
        · skip
          refine zA_iconst dX8_kindOf_40 ?_
          refine zA_iret dX8_kindOf_41 rfl ?_
          exact zRt_i (by unfold kdOf; split <;> first | omega | (split <;> first | omega | (split <;> first | omega | (split <;> omega))))
        · skip
          refine zA_iload_n dX8_kindOf_34 rfl ?_
          refine zA_bipush dX8_kindOf_35 rfl ?_
          refine zA_icmp_ne (tgt := 42) dX8_kindOf_37 (by decide) (by first | assumption | exact hr _ _ | exact inR_mk (by omega) (by omega)) ⟨by decide, by decide⟩ (fun c37 => ?_) (fun c37 => ?_)
          · skip
            refine zA_iload_n dX8_kindOf_42 rfl ?_
            refine zA_bipush dX8_kindOf_43 rfl ?_
            refine zA_icmp_ne (tgt := 52) dX8_kindOf_45 (by decide) (by first | assumption | exact hr _ _ | exact inR_mk (by omega) (by omega)) ⟨by decide, by decide⟩ (fun c45 => ?_) (fun c45 => ?_)
            · skip
              refine zA_iconst dX8_kindOf_52 ?_
              refine zA_iret dX8_kindOf_53 rfl ?_
              exact zRt_i (by unfold kdOf; split <;> first | omega | (split <;> first | omega | (split <;> first | omega | (split <;> omega))))
            · skip
              refine zA_iconst dX8_kindOf_48 ?_
              refine zA_goto (tgt := 53) dX8_kindOf_49 (by decide) ?_
              refine zA_iret dX8_kindOf_53 rfl ?_
              exact zRt_i (by unfold kdOf; split <;> first | omega | (split <;> first | omega | (split <;> first | omega | (split <;> omega))))
          · skip
            refine zA_iconst dX8_kindOf_40 ?_
            refine zA_iret dX8_kindOf_41 rfl ?_
            exact zRt_i (by unfold kdOf; split <;> first | omega | (split <;> first | omega | (split <;> first | omega | (split <;> omega))))
      · skip
        refine zA_iconst dX8_kindOf_26 ?_
        refine zA_iret dX8_kindOf_27 rfl ?_
        exact zRt_i (by unfold kdOf; split <;> first | omega | (split <;> first | omega | (split <;> first | omega | (split <;> omega))))
  · skip
    refine zA_iload_n dX8_kindOf_6 rfl ?_
    refine zA_bipush dX8_kindOf_7 rfl ?_
    refine zA_icmp_gt (tgt := 14) dX8_kindOf_9 (by decide) (by first | assumption | exact hr _ _ | exact inR_mk (by omega) (by omega)) ⟨by decide, by decide⟩ (fun c9 => ?_) (fun c9 => ?_)
    · skip
      refine zA_iload_n dX8_kindOf_14 rfl ?_
      refine zA_bipush dX8_kindOf_15 rfl ?_
      refine zA_icmp_lt (tgt := 28) dX8_kindOf_17 (by decide) (by first | assumption | exact hr _ _ | exact inR_mk (by omega) (by omega)) ⟨by decide, by decide⟩ (fun c17 => ?_) (fun c17 => ?_)
      · skip
        refine zA_iload_n dX8_kindOf_28 rfl ?_
        refine zA_bipush dX8_kindOf_29 rfl ?_
        refine zA_icmp_eq (tgt := 40) dX8_kindOf_31 (by decide) (by first | assumption | exact hr _ _ | exact inR_mk (by omega) (by omega)) ⟨by decide, by decide⟩ (fun c31 => ?_) (fun c31 => ?_)
        · skip
          refine zA_iconst dX8_kindOf_40 ?_
          refine zA_iret dX8_kindOf_41 rfl ?_
          exact zRt_i (by unfold kdOf; split <;> first | omega | (split <;> first | omega | (split <;> first | omega | (split <;> omega))))
        · skip
          refine zA_iload_n dX8_kindOf_34 rfl ?_
          refine zA_bipush dX8_kindOf_35 rfl ?_
          refine zA_icmp_ne (tgt := 42) dX8_kindOf_37 (by decide) (by first | assumption | exact hr _ _ | exact inR_mk (by omega) (by omega)) ⟨by decide, by decide⟩ (fun c37 => ?_) (fun c37 => ?_)
          · skip
            refine zA_iload_n dX8_kindOf_42 rfl ?_
            refine zA_bipush dX8_kindOf_43 rfl ?_
            refine zA_icmp_ne (tgt := 52) dX8_kindOf_45 (by decide) (by first | assumption | exact hr _ _ | exact inR_mk (by omega) (by omega)) ⟨by decide, by decide⟩ (fun c45 => ?_) (fun c45 => ?_)
            · skip
              refine zA_iconst dX8_kindOf_52 ?_
              refine zA_iret dX8_kindOf_53 rfl ?_
              exact zRt_i (by unfold kdOf; split <;> first | omega | (split <;> first | omega | (split <;> first | omega | (split <;> omega))))
            · skip
              refine zA_iconst dX8_kindOf_48 ?_
              refine zA_goto (tgt := 53) dX8_kindOf_49 (by decide) ?_
              refine zA_iret dX8_kindOf_53 rfl ?_
              exact zRt_i (by unfold kdOf; split <;> first | omega | (split <;> first | omega | (split <;> first | omega | (split <;> omega))))
          · skip
            refine zA_iconst dX8_kindOf_40 ?_
            refine zA_iret dX8_kindOf_41 rfl ?_
            exact zRt_i (by unfold kdOf; split <;> first | omega | (split <;> first | omega | (split <;> first | omega | (split <;> omega))))
      · skip
        refine zA_iload_n dX8_kindOf_20 rfl ?_
        refine zA_bipush dX8_kindOf_21 rfl ?_
        refine zA_icmp_gt (tgt := 28) dX8_kindOf_23 (by decide) (by first | assumption | exact hr _ _ | exact inR_mk (by omega) (by omega)) ⟨by decide, by decide⟩ (fun c23 => ?_) (fun c23 => ?_)
        · skip
          refine zA_iload_n dX8_kindOf_28 rfl ?_
          refine zA_bipush dX8_kindOf_29 rfl ?_
          refine zA_icmp_eq (tgt := 40) dX8_kindOf_31 (by decide) (by first | assumption | exact hr _ _ | exact inR_mk (by omega) (by omega)) ⟨by decide, by decide⟩ (fun c31 => ?_) (fun c31 => ?_)
          · skip
            refine zA_iconst dX8_kindOf_40 ?_
            refine zA_iret dX8_kindOf_41 rfl ?_
            exact zRt_i (by unfold kdOf; split <;> first | omega | (split <;> first | omega | (split <;> first | omega | (split <;> omega))))
          · skip
            refine zA_iload_n dX8_kindOf_34 rfl ?_
            refine zA_bipush dX8_kindOf_35 rfl ?_
            refine zA_icmp_ne (tgt := 42) dX8_kindOf_37 (by decide) (by first | assumption | exact hr _ _ | exact inR_mk (by omega) (by omega)) ⟨by decide, by decide⟩ (fun c37 => ?_) (fun c37 => ?_)
            · skip
              refine zA_iload_n dX8_kindOf_42 rfl ?_
              refine zA_bipush dX8_kindOf_43 rfl ?_
              refine zA_icmp_ne (tgt := 52) dX8_kindOf_45 (by decide) (by first | assumption | exact hr _ _ | exact inR_mk (by omega) (by omega)) ⟨by decide, by decide⟩ (fun c45 => ?_) (fun c45 => ?_)
              · skip
                refine zA_iconst dX8_kindOf_52 ?_
                refine zA_iret dX8_kindOf_53 rfl ?_
                exact zRt_i (by unfold kdOf; split <;> first | omega | (split <;> first | omega | (split <;> first | omega | (split <;> omega))))
              · skip
                refine zA_iconst dX8_kindOf_48 ?_
                refine zA_goto (tgt := 53) dX8_kindOf_49 (by decide) ?_
                refine zA_iret dX8_kindOf_53 rfl ?_
                exact zRt_i (by unfold kdOf; split <;> first | omega | (split <;> first | omega | (split <;> first | omega | (split <;> omega))))
            · skip
              refine zA_iconst dX8_kindOf_40 ?_
              refine zA_iret dX8_kindOf_41 rfl ?_
              exact zRt_i (by unfold kdOf; split <;> first | omega | (split <;> first | omega | (split <;> first | omega | (split <;> omega))))
        · skip
          refine zA_iconst dX8_kindOf_26 ?_
          refine zA_iret dX8_kindOf_27 rfl ?_
          exact zRt_i (by unfold kdOf; split <;> first | omega | (split <;> first | omega | (split <;> first | omega | (split <;> omega))))
    · skip
      refine zA_iconst dX8_kindOf_12 ?_
      refine zA_iret dX8_kindOf_13 rfl ?_
      exact zRt_i (by unfold kdOf; split <;> first | omega | (split <;> first | omega | (split <;> first | omega | (split <;> omega))))

set_option maxRecDepth 100000 in
set_option maxHeartbeats 4000000 in
theorem s_failR {l : Launch} {t dr tx : Nat} {w : zW} {k : Int} (hk : inR k) : zSp l mX8_fail false 1 0 0 [zR 2, zI k] (ZZ t dr tx) w (fun v' S' w' => v' = none ∧ S' = (ZZ t dr tx) ∧ w' = (if w 2 6 ≠ 0 then w else up (up w 2 6 k) 2 7 (w 2 3))) zNo := by
  refine zA_intro ⟨plainFor_of_name (by decide +kernel), Or.inl (by decide +kernel)⟩ rfl (Nat.le_of_ble_eq_true rfl) ?_
  refine zA_range (fun hr => ?_)
  show zA l mX8_fail false 1 0 0 (fun v' S' w' => v' = none ∧ S' = (ZZ t dr tx) ∧ w' = (if w 2 6 ≠ 0 then w else up (up w 2 6 k) 2 7 (w 2 3))) zNo 0 [zR 2, zI k] [] (ZZ t dr tx) w
  refine zA_aload_n dX8_fail_0 rfl ?_
  refine zA_getI dX8_fail_1 fX8_31 c2 rfl ?_
  refine zA_valI (w 2 6) rfl ?_
  refine zA_if_ne (tgt := 20) dX8_fail_4 (by decide) (by first | assumption | exact hr _ _ | exact inR_mk (by omega) (by omega)) (fun c4 => ?_) (fun c4 => ?_)
  · skip
    refine zA_vret dX8_fail_20 rfl ?_
    exact ⟨rfl, rfl, by rw [if_pos (by omega)]⟩
  · skip
    refine zA_aload_n dX8_fail_7 rfl ?_
    refine zA_iload_n dX8_fail_8 rfl ?_
    refine zA_putI dX8_fail_9 fX8_31 c2 rfl (by first | assumption | exact hr _ _ | exact inR_mk (by omega) (by omega)) ⟨rfl, rfl⟩ ?_
    refine zA_namew (fun w_1 hw_1 => ?_)
    refine zA_range (fun hr => ?_)
    replace hw_1 : w_1 = up w 2 6 k := hw_1
    refine zA_aload_n dX8_fail_12 rfl ?_
    refine zA_aload_n dX8_fail_13 rfl ?_
    refine zA_getI dX8_fail_14 fX8_22 c2 rfl ?_
    refine zA_valI (w_1 2 3) rfl ?_
    refine zA_putI dX8_fail_17 fX8_34 c2 rfl (by first | assumption | exact hr _ _ | exact inR_mk (by omega) (by omega)) ⟨rfl, rfl⟩ ?_
    refine zA_namew (fun w_2 hw_2 => ?_)
    refine zA_range (fun hr => ?_)
    replace hw_2 : w_2 = up w_1 2 7 (w_1 2 3) := hw_2
    refine zA_vret dX8_fail_20 rfl ?_
    refine ⟨rfl, rfl, ?_⟩
    rw [if_neg (by omega), hw_2, hw_1, up_idx _ _ _ _ (by decide)]

