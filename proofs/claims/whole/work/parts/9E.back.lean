/-! the last climb is taken back: the height of the logged chimney is all that is asked of heights -/
set_option maxRecDepth 100000 in
set_option maxHeartbeats 4000000 in
theorem s_takeBack2 {l : Launch} {t dr tx : Nat} {w : zW} {y : Nat} (hy : y = 4 ∨ y = 10) (hcy : 0 < w 44 6 → 0 ≤ w (y + 1) ((w 48 (w 44 6 - 1)) / 10 / 20 / 30) ∧ w (y + 1) ((w 48 (w 44 6 - 1)) / 10 / 20 / 30) ≤ 200) (hmu : ∀ x : Int, 0 ≤ x → x < 360 → 0 ≤ w 46 x ∧ w 46 x < 1024) (hlv : ∀ r : Int, 0 ≤ r → r < 20 → 0 ≤ w 45 r ∧ w 45 r ≤ 200000) (hlt : ∀ i : Int, 0 ≤ i → i < w 44 6 → 0 ≤ w 48 i ∧ w 48 i < 72000) (k0 : 0 ≤ w 44 6) (k1 : w 44 6 ≤ 50) (hg : -100000 ≤ w 47 0 ∧ w 47 0 ≤ 100000)  : zSp l mX0_takeBack false 1 0 0 [zR 44, zR y] (ZZ t dr tx) w (fun v' S' w' => S' = (ZZ t dr tx) ∧ ((w 44 6 ≤ 0 ∧ v' = some (zI (-1)) ∧ w' = w) ∨ (0 < w 44 6 ∧ v' = some (zI ((w 48 (w 44 6 - 1)) % 10)) ∧ w' = up (up (up (up w 44 6 (w 44 6 - 1)) 45 ((w 48 (w 44 6 - 1)) / 10 % 20) (w 45 ((w 48 (w 44 6 - 1)) / 10 % 20) + w (y + 1) ((w 48 (w 44 6 - 1)) / 10 / 20 / 30))) 46 ((w 48 (w 44 6 - 1)) / 10 / 20) (iAnd (w 46 ((w 48 (w 44 6 - 1)) / 10 / 20)) (iXor (iShl 1 ((w 48 (w 44 6 - 1)) % 10)) (-1)))) 47 0 (w 47 0 - 1)))) zNo := by
  refine zA_intro ⟨plainFor_of_name (by decide +kernel), Or.inl (by decide +kernel)⟩ rfl (Nat.le_of_ble_eq_true rfl) ?_
  refine zA_range (fun hr => ?_)
  show zA l mX0_takeBack false 1 0 0 (fun v' S' w' => S' = (ZZ t dr tx) ∧ ((w 44 6 ≤ 0 ∧ v' = some (zI (-1)) ∧ w' = w) ∨ (0 < w 44 6 ∧ v' = some (zI ((w 48 (w 44 6 - 1)) % 10)) ∧ w' = up (up (up (up w 44 6 (w 44 6 - 1)) 45 ((w 48 (w 44 6 - 1)) / 10 % 20) (w 45 ((w 48 (w 44 6 - 1)) / 10 % 20) + w (y + 1) ((w 48 (w 44 6 - 1)) / 10 / 20 / 30))) 46 ((w 48 (w 44 6 - 1)) / 10 / 20) (iAnd (w 46 ((w 48 (w 44 6 - 1)) / 10 / 20)) (iXor (iShl 1 ((w 48 (w 44 6 - 1)) % 10)) (-1)))) 47 0 (w 47 0 - 1)))) zNo 0 [zR 44, zR y, .null, .null, .null] [] (ZZ t dr tx) w
  refine zA_aload_n dX0_takeBack_0 rfl ?_
  refine zA_getI dX0_takeBack_1 fX0_31 c44 rfl ?_
  refine zA_valI (w 44 6) rfl ?_
  refine zA_if_gt (tgt := 9) dX0_takeBack_4 (by decide) (by first | assumption | exact hr _ _ | exact inR_mk (by omega) (by omega)) (fun c4 => ?_) (fun c4 => ?_)
  · skip
    refine zA_aload_n dX0_takeBack_9 rfl ?_
    refine zA_dup dX0_takeBack_10 rfl ?_
    refine zA_getI dX0_takeBack_11 fX0_31 c44 rfl ?_
    refine zA_valI (w 44 6) rfl ?_
    refine zA_iconst dX0_takeBack_14 ?_
    refine zA_isub dX0_takeBack_15 ?_
    refine zA_putI dX0_takeBack_16 fX0_31 c44 rfl (by first | assumption | exact hr _ _ | exact inR_mk (by omega) (by omega)) ⟨rfl, rfl⟩ ?_
    refine zA_namew (fun w_1 hw_1 => ?_)
    refine zA_range (fun hr => ?_)
    replace hw_1 : w_1 = up w 44 6 ((w 44 6) - 1) := hw_1
    have e6 : w_1 44 6 = w 44 6 - 1 := by rw [hw_1, up_same]
    have eo : ∀ cc i, cc ≠ 44 → w_1 cc i = w cc i := fun cc i h => by rw [hw_1, up_cell _ _ _ _ h]
    have ep : w_1 48 (w_1 44 6) = (w 48 (w 44 6 - 1)) := by rw [e6]; exact eo 48 _ (by decide)
    have hpb := hlt (w 44 6 - 1) (by omega) (by omega)
    have hmb := hmu ((w 48 (w 44 6 - 1)) / 10 / 20) (by omega) (by omega)
    have hlb := hlv ((w 48 (w 44 6 - 1)) / 10 % 20) (by omega) (by omega)
    have hcb := hcy (by omega)
    have hclr := tb_clr (x := w 46 ((w 48 (w 44 6 - 1)) / 10 / 20)) (i := (w 48 (w 44 6 - 1)) % 10) hmb.1 (by omega) (by omega) (by omega)
    have hclr2 := inR_mk (z := iAnd (w 46 ((w 48 (w 44 6 - 1)) / 10 / 20)) (iXor (iShl 1 ((w 48 (w 44 6 - 1)) % 10)) (-1))) (by omega) hclr.1.2
    refine zA_aload_n dX0_takeBack_19 rfl ?_
    refine zA_getR (n := 48) dX0_takeBack_20 fX0_28 c44 rfl ?_
    refine zA_aload_n dX0_takeBack_23 rfl ?_
    refine zA_getI dX0_takeBack_24 fX0_31 c44 rfl ?_
    refine zA_valI (w_1 44 6) rfl ?_
    refine zA_iaload dX0_takeBack_27 c48 (by first | assumption | omega) (by first | assumption | omega) (by decide) ?_
    refine zA_valI (w 48 (w 44 6 - 1)) (ep) ?_
    refine zA_bipush dX0_takeBack_28 rfl ?_
    refine zA_irem dX0_takeBack_30 (by first | assumption | omega) (by first | assumption | omega) (by first | assumption | omega) (by first | assumption | omega) ?_
    refine zA_istore_n (lo1 := [zR 44, zR y, zI ((w 48 (w 44 6 - 1)) % 10), .null, .null]) dX0_takeBack_31 (by decide) rfl rfl ?_
    refine zA_aload_n dX0_takeBack_32 rfl ?_
    refine zA_getR (n := 48) dX0_takeBack_33 fX0_28 c44 rfl ?_
    refine zA_aload_n dX0_takeBack_36 rfl ?_
    refine zA_getI dX0_takeBack_37 fX0_31 c44 rfl ?_
    refine zA_valI (w_1 44 6) rfl ?_
    refine zA_iaload dX0_takeBack_40 c48 (by first | assumption | omega) (by first | assumption | omega) (by decide) ?_
    refine zA_valI (w 48 (w 44 6 - 1)) (ep) ?_
    refine zA_bipush dX0_takeBack_41 rfl ?_
    refine zA_idiv dX0_takeBack_43 (by first | assumption | omega) (by first | assumption | omega) (by first | assumption | omega) (by first | assumption | omega) ?_
    refine zA_bipush dX0_takeBack_44 rfl ?_
    refine zA_irem dX0_takeBack_46 (by first | assumption | omega) (by first | assumption | omega) (by first | assumption | omega) (by first | assumption | omega) ?_
    refine zA_istore_n (lo1 := [zR 44, zR y, zI ((w 48 (w 44 6 - 1)) % 10), zI (((w 48 (w 44 6 - 1)) / 10) % 20), .null]) dX0_takeBack_47 (by decide) rfl rfl ?_
    refine zA_aload_n dX0_takeBack_48 rfl ?_
    refine zA_getR (n := 48) dX0_takeBack_49 fX0_28 c44 rfl ?_
    refine zA_aload_n dX0_takeBack_52 rfl ?_
    refine zA_getI dX0_takeBack_53 fX0_31 c44 rfl ?_
    refine zA_valI (w_1 44 6) rfl ?_
    refine zA_iaload dX0_takeBack_56 c48 (by first | assumption | omega) (by first | assumption | omega) (by decide) ?_
    refine zA_valI (w 48 (w 44 6 - 1)) (ep) ?_
    refine zA_bipush dX0_takeBack_57 rfl ?_
    refine zA_idiv dX0_takeBack_59 (by first | assumption | omega) (by first | assumption | omega) (by first | assumption | omega) (by first | assumption | omega) ?_
    refine zA_bipush dX0_takeBack_60 rfl ?_
    refine zA_idiv dX0_takeBack_62 (by first | assumption | omega) (by first | assumption | omega) (by first | assumption | omega) (by first | assumption | omega) ?_
    refine zA_istore (lo1 := [zR 44, zR y, zI ((w 48 (w 44 6 - 1)) % 10), zI (((w 48 (w 44 6 - 1)) / 10) % 20), zI (((w 48 (w 44 6 - 1)) / 10) / 20)]) dX0_takeBack_63 (by decide) rfl rfl ?_
    refine zA_aload_n dX0_takeBack_65 rfl ?_
    refine zA_getR (n := 45) dX0_takeBack_66 fX0_11 c44 rfl ?_
    refine zA_iload_n dX0_takeBack_69 rfl ?_
    refine zA_dup2 dX0_takeBack_70 rfl rfl ?_
    refine zA_iaload dX0_takeBack_71 c45 (by first | assumption | omega) (by first | assumption | omega) (by decide) ?_
    refine zA_aload_n dX0_takeBack_72 rfl ?_
    refine zA_getR (n := (y + 1)) dX0_takeBack_73 fX0_46 (cY0 hy) rfl ?_
    refine zA_iload dX0_takeBack_76 rfl ?_
    refine zA_bipush dX0_takeBack_78 rfl ?_
    refine zA_idiv dX0_takeBack_80 (by first | assumption | omega) (by first | assumption | omega) (by first | assumption | omega) (by first | assumption | omega) ?_
    refine zA_iaload dX0_takeBack_81 (cY1 hy) (by first | assumption | omega) (by first | assumption | omega) (by decide) ?_
    refine zA_iadd dX0_takeBack_82 ?_
    refine zA_valI (w 45 ((w 48 (w 44 6 - 1)) / 10 % 20) + w (y + 1) ((w 48 (w 44 6 - 1)) / 10 / 20 / 30)) (by rw [eo 45 _ (by decide), eo (y + 1) _ (by omega)]) ?_
    refine zA_iastore dX0_takeBack_83 (by first | assumption | exact hr _ _ | exact inR_mk (by omega) (by omega)) c45 (by first | assumption | omega) (by first | assumption | omega) (by decide) ?_
    refine zA_namew (fun w_2 hw_2 => ?_)
    refine zA_range (fun hr => ?_)
    replace hw_2 : w_2 = up w_1 45 (((w 48 (w 44 6 - 1)) / 10) % 20) (w 45 ((w 48 (w 44 6 - 1)) / 10 % 20) + w (y + 1) ((w 48 (w 44 6 - 1)) / 10 / 20 / 30)) := hw_2
    refine zA_aload_n dX0_takeBack_84 rfl ?_
    refine zA_getR (n := 46) dX0_takeBack_85 fX0_19 c44 rfl ?_
    refine zA_iload dX0_takeBack_88 rfl ?_
    refine zA_dup2 dX0_takeBack_90 rfl rfl ?_
    refine zA_iaload dX0_takeBack_91 c46 (by first | assumption | omega) (by first | assumption | omega) (by decide) ?_
    refine zA_iconst dX0_takeBack_92 ?_
    refine zA_iload_n dX0_takeBack_93 rfl ?_
    refine zA_ishl dX0_takeBack_94 ?_
    refine zA_iconst dX0_takeBack_95 ?_
    refine zA_ixor dX0_takeBack_96 ?_
    refine zA_iand dX0_takeBack_97 ?_
    refine zA_valI (iAnd (w 46 ((w 48 (w 44 6 - 1)) / 10 / 20)) (iXor (iShl 1 ((w 48 (w 44 6 - 1)) % 10)) (-1))) (by rw [hw_2, up_cell _ _ _ _ (by decide), eo 46 _ (by decide)]) ?_
    refine zA_iastore dX0_takeBack_98 (by first | assumption | exact hr _ _ | exact inR_mk (by omega) (by omega)) c46 (by first | assumption | omega) (by first | assumption | omega) (by decide) ?_
    refine zA_namew (fun w_3 hw_3 => ?_)
    refine zA_range (fun hr => ?_)
    replace hw_3 : w_3 = up w_2 46 (((w 48 (w 44 6 - 1)) / 10) / 20) (iAnd (w 46 ((w 48 (w 44 6 - 1)) / 10 / 20)) (iXor (iShl 1 ((w 48 (w 44 6 - 1)) % 10)) (-1))) := hw_3
    refine zA_aload_n dX0_takeBack_99 rfl ?_
    refine zA_getR (n := 47) dX0_takeBack_100 fX0_22 c44 rfl ?_
    refine zA_iconst dX0_takeBack_103 ?_
    refine zA_dup2 dX0_takeBack_104 rfl rfl ?_
    refine zA_iaload dX0_takeBack_105 c47 (by first | assumption | omega) (by first | assumption | omega) (by decide) ?_
    refine zA_iconst dX0_takeBack_106 ?_
    refine zA_isub dX0_takeBack_107 ?_
    refine zA_valI (w 47 0 - 1) (by rw [hw_3, up_cell _ _ _ _ (by decide), hw_2, up_cell _ _ _ _ (by decide), eo 47 _ (by decide)]) ?_
    refine zA_iastore dX0_takeBack_108 (by first | assumption | exact hr _ _ | exact inR_mk (by omega) (by omega)) c47 (by first | assumption | omega) (by first | assumption | omega) (by decide) ?_
    refine zA_namew (fun w_4 hw_4 => ?_)
    refine zA_range (fun hr => ?_)
    replace hw_4 : w_4 = up w_3 47 0 (w 47 0 - 1) := hw_4
    refine zA_iload_n dX0_takeBack_109 rfl ?_
    refine zA_iret dX0_takeBack_110 rfl ?_
    exact ⟨rfl, Or.inr ⟨by omega, rfl, by rw [hw_4, hw_3, hw_2, hw_1]⟩⟩
  · skip
    refine zA_iconst dX0_takeBack_7 ?_
    refine zA_iret dX0_takeBack_8 rfl ?_
    exact ⟨rfl, Or.inl ⟨by omega, rfl, rfl⟩⟩
set_option maxRecDepth 100000 in
set_option maxHeartbeats 4000000 in
theorem s_back2 {l : Launch} {t dr tx : Nat} {w : zW} (ht : t = 4 ∨ t = 10) (hcy : 0 < w 44 6 → 0 ≤ w (t + 1) ((w 48 (w 44 6 - 1)) / 10 / 20 / 30) ∧ w (t + 1) ((w 48 (w 44 6 - 1)) / 10 / 20 / 30) ≤ 200) (hmu : ∀ x : Int, 0 ≤ x → x < 360 → 0 ≤ w 46 x ∧ w 46 x < 1024) (hlv : ∀ r : Int, 0 ≤ r → r < 20 → 0 ≤ w 45 r ∧ w 45 r ≤ 200000) (hlt : ∀ i : Int, 0 ≤ i → i < w 44 6 → 0 ≤ w 48 i ∧ w 48 i < 72000) (k0 : 0 ≤ w 44 6) (k1 : w 44 6 ≤ 50) (hg : -100000 ≤ w 47 0 ∧ w 47 0 ≤ 100000)  : zSp l mX11_back false 2 0 0 [zR 0] (ZZ t dr tx) w (fun v' S' w' => S' = (ZZ t dr tx) ∧ ((w 44 6 ≤ 0 ∧ v' = some (zI (-1)) ∧ w' = w) ∨ (0 < w 44 6 ∧ v' = some (zI ((w 48 (w 44 6 - 1)) % 10)) ∧ w' = up (up (up (up w 44 6 (w 44 6 - 1)) 45 ((w 48 (w 44 6 - 1)) / 10 % 20) (w 45 ((w 48 (w 44 6 - 1)) / 10 % 20) + w (t + 1) ((w 48 (w 44 6 - 1)) / 10 / 20 / 30))) 46 ((w 48 (w 44 6 - 1)) / 10 / 20) (iAnd (w 46 ((w 48 (w 44 6 - 1)) / 10 / 20)) (iXor (iShl 1 ((w 48 (w 44 6 - 1)) % 10)) (-1)))) 47 0 (w 47 0 - 1)))) zNo := by
  refine zA_intro ⟨plainFor_of_name (by decide +kernel), Or.inl (by decide +kernel)⟩ rfl (Nat.le_of_ble_eq_true rfl) ?_
  refine zA_range (fun hr => ?_)
  show zA l mX11_back false 2 0 0 (fun v' S' w' => S' = (ZZ t dr tx) ∧ ((w 44 6 ≤ 0 ∧ v' = some (zI (-1)) ∧ w' = w) ∨ (0 < w 44 6 ∧ v' = some (zI ((w 48 (w 44 6 - 1)) % 10)) ∧ w' = up (up (up (up w 44 6 (w 44 6 - 1)) 45 ((w 48 (w 44 6 - 1)) / 10 % 20) (w 45 ((w 48 (w 44 6 - 1)) / 10 % 20) + w (t + 1) ((w 48 (w 44 6 - 1)) / 10 / 20 / 30))) 46 ((w 48 (w 44 6 - 1)) / 10 / 20) (iAnd (w 46 ((w 48 (w 44 6 - 1)) / 10 / 20)) (iXor (iShl 1 ((w 48 (w 44 6 - 1)) % 10)) (-1)))) 47 0 (w 47 0 - 1)))) zNo 0 [zR 0] [] (ZZ t dr tx) w
  refine zA_aload_n dX11_back_0 rfl ?_
  refine zA_getR (n := 44) dX11_back_1 fX11_71 c0 rfl ?_
  refine zA_aload_n dX11_back_4 rfl ?_
  refine zA_getR (n := t) dX11_back_5 fX11_30 c0 rfl ?_
  refine zA_cV (st := []) dX11_back_8 vX0_takeBack kX11_370 (s_takeBack2 (w := w) (y := t) ht hcy hmu hlv hlt k0 k1 hg) (by decide) c44 rfl rfl (Nat.le_of_ble_eq_true rfl) rfl (fun q_1_v q_1_S q_1_w q_1 => ?_)
  obtain ⟨rfl, hres⟩ := q_1
  obtain ⟨zv, hzv, hr2⟩ : ∃ zv, q_1_v = some (zI zv) ∧ ((w 44 6 ≤ 0 ∧ zv = -1 ∧ q_1_w = w) ∨ (0 < w 44 6 ∧ zv = (w 48 (w 44 6 - 1)) % 10 ∧ q_1_w = up (up (up (up w 44 6 (w 44 6 - 1)) 45 ((w 48 (w 44 6 - 1)) / 10 % 20) (w 45 ((w 48 (w 44 6 - 1)) / 10 % 20) + w (t + 1) ((w 48 (w 44 6 - 1)) / 10 / 20 / 30))) 46 ((w 48 (w 44 6 - 1)) / 10 / 20) (iAnd (w 46 ((w 48 (w 44 6 - 1)) / 10 / 20)) (iXor (iShl 1 ((w 48 (w 44 6 - 1)) % 10)) (-1)))) 47 0 (w 47 0 - 1))) := by
    rcases hres with ⟨a, b, e⟩ | ⟨a, b, e⟩
    · exact ⟨_, b, Or.inl ⟨a, rfl, e⟩⟩
    · exact ⟨_, b, Or.inr ⟨a, rfl, e⟩⟩
  subst hzv
  refine zA_range (fun hr => ?_)
  show zA l mX11_back false 2 0 0 (fun v' S' w' => S' = (ZZ t dr tx) ∧ ((w 44 6 ≤ 0 ∧ v' = some (zI (-1)) ∧ w' = w) ∨ (0 < w 44 6 ∧ v' = some (zI ((w 48 (w 44 6 - 1)) % 10)) ∧ w' = up (up (up (up w 44 6 (w 44 6 - 1)) 45 ((w 48 (w 44 6 - 1)) / 10 % 20) (w 45 ((w 48 (w 44 6 - 1)) / 10 % 20) + w (t + 1) ((w 48 (w 44 6 - 1)) / 10 / 20 / 30))) 46 ((w 48 (w 44 6 - 1)) / 10 / 20) (iAnd (w 46 ((w 48 (w 44 6 - 1)) / 10 / 20)) (iXor (iShl 1 ((w 48 (w 44 6 - 1)) % 10)) (-1)))) 47 0 (w 47 0 - 1)))) zNo 11 [zR 0] [zI zv] (ZZ t dr tx) q_1_w
  refine zA_iret dX11_back_11 rfl ?_
  refine ⟨rfl, ?_⟩
  rcases hr2 with ⟨a, b, e⟩ | ⟨a, b, e⟩
  · exact Or.inl ⟨a, by rw [b], e⟩
  · exact Or.inr ⟨a, by rw [b], e⟩
set_option maxRecDepth 100000 in
set_option maxHeartbeats 4000000 in
theorem m_back2 {l : Launch} {t dr tx : Nat} {w : zW} (hmu : ∀ x : Int, 0 ≤ x → x < 360 → 0 ≤ w 99 x ∧ w 99 x < 1024) (hlv : ∀ r : Int, 0 ≤ r → r < 20 → 0 ≤ w 95 r ∧ w 95 r ≤ 200000) (hcy : w 73 54 ≠ 0 → 0 ≤ w 79 (w 100 (4 * (w 73 54 - 1) + 1)) ∧ w 79 (w 100 (4 * (w 73 54 - 1) + 1)) ≤ 200) (hlg : ∀ i : Int, 0 ≤ i → i < w 73 54 → (0 ≤ w 100 (4 * i) ∧ w 100 (4 * i) < 10) ∧ (0 ≤ w 100 (4 * i + 1) ∧ w 100 (4 * i + 1) < 12) ∧ (0 ≤ w 100 (4 * i + 2) ∧ w 100 (4 * i + 2) < 20) ∧ 0 ≤ w 100 (4 * i + 3) ∧ w 100 (4 * i + 3) < 30) (k0 : 0 ≤ w 73 54) (k1 : w 73 54 ≤ 50) (hg : -100000 ≤ w 98 0 ∧ w 98 0 ≤ 100000) : zSp l mX12_back false 2 0 0 [zR 73] (ZZ t dr tx) w (fun v' S' w' => S' = (ZZ t dr tx) ∧ ((w 73 54 = 0 ∧ v' = some (zI (-1)) ∧ w' = up w 73 1 0) ∨ (w 73 54 ≠ 0 ∧ v' = some (zI (w 100 (4 * (w 73 54 - 1)))) ∧ w' = up (up (up (up (up w 73 1 0) 73 54 (w 73 54 - 1)) 99 (30 * (w 100 (4 * (w 73 54 - 1) + 1)) + (w 100 (4 * (w 73 54 - 1) + 3))) (iAnd (w 99 (30 * (w 100 (4 * (w 73 54 - 1) + 1)) + (w 100 (4 * (w 73 54 - 1) + 3)))) (iXor (iShl 1 (w 100 (4 * (w 73 54 - 1)))) (-1)))) 95 (w 100 (4 * (w 73 54 - 1) + 2)) (w 95 (w 100 (4 * (w 73 54 - 1) + 2)) + w 79 (w 100 (4 * (w 73 54 - 1) + 1)))) 98 0 (w 98 0 - 1)))) zNo := by
  refine zA_intro ⟨plainFor_of_name (by decide +kernel), Or.inl (by decide +kernel)⟩ rfl (Nat.le_of_ble_eq_true rfl) ?_
  refine zA_range (fun hr => ?_)
  show zA l mX12_back false 2 0 0 (fun v' S' w' => S' = (ZZ t dr tx) ∧ ((w 73 54 = 0 ∧ v' = some (zI (-1)) ∧ w' = up w 73 1 0) ∨ (w 73 54 ≠ 0 ∧ v' = some (zI (w 100 (4 * (w 73 54 - 1)))) ∧ w' = up (up (up (up (up w 73 1 0) 73 54 (w 73 54 - 1)) 99 (30 * (w 100 (4 * (w 73 54 - 1) + 1)) + (w 100 (4 * (w 73 54 - 1) + 3))) (iAnd (w 99 (30 * (w 100 (4 * (w 73 54 - 1) + 1)) + (w 100 (4 * (w 73 54 - 1) + 3)))) (iXor (iShl 1 (w 100 (4 * (w 73 54 - 1)))) (-1)))) 95 (w 100 (4 * (w 73 54 - 1) + 2)) (w 95 (w 100 (4 * (w 73 54 - 1) + 2)) + w 79 (w 100 (4 * (w 73 54 - 1) + 1)))) 98 0 (w 98 0 - 1)))) zNo 0 [zR 73, .null, .null] [] (ZZ t dr tx) w
  refine zA_aload_n dX12_back_0 rfl ?_
  refine zA_iconst dX12_back_1 ?_
  refine zA_putI dX12_back_2 fX12_182 c73 rfl ⟨by decide, by decide⟩ ⟨rfl, rfl⟩ ?_
  refine zA_namew (fun w_1 hw_1 => ?_)
  refine zA_range (fun hr => ?_)
  replace hw_1 : w_1 = up w 73 1 0 := hw_1
  have ef : ∀ cc i, (cc ≠ 73 ∨ i ≠ 1) → w_1 cc i = w cc i := fun cc i h => by
    by_cases hc : cc = 73
    · subst hc; rw [hw_1, up_idx _ _ _ _ (by omega)]
    · rw [hw_1, up_cell _ _ _ _ hc]
  have ew : ∀ cc, cc ≠ 73 → w_1 cc = w cc := fun cc h => funext fun i => ef cc i (Or.inl h)
  have e1 : w_1 73 1 = 0 := by rw [hw_1, up_same]
  have f54 : w_1 73 54 = w 73 54 := ef 73 54 (Or.inr (by decide))
  refine zA_aload_n dX12_back_5 rfl ?_
  refine zA_getI dX12_back_6 fX12_305 c73 rfl ?_
  refine zA_valI (w_1 73 54) rfl ?_
  refine zA_if_ne (tgt := 14) dX12_back_9 (by decide) (by first | assumption | exact hr _ _ | exact inR_mk (by omega) (by omega)) (fun c9 => ?_) (fun c9 => ?_)
  · skip
    refine zA_aload_n dX12_back_14 rfl ?_
    refine zA_dup dX12_back_15 rfl ?_
    refine zA_getI dX12_back_16 fX12_305 c73 rfl ?_
    refine zA_valI (w_1 73 54) rfl ?_
    refine zA_iconst dX12_back_19 ?_
    refine zA_isub dX12_back_20 ?_
    refine zA_putI dX12_back_21 fX12_305 c73 rfl (by first | assumption | exact hr _ _ | exact inR_mk (by omega) (by omega)) ⟨rfl, rfl⟩ ?_
    refine zA_namew (fun w_2 hw_2 => ?_)
    refine zA_range (fun hr => ?_)
    replace hw_2 : w_2 = up w_1 73 54 ((w_1 73 54) - 1) := hw_2
    have h54 : w_2 73 54 = w 73 54 - 1 := by rw [hw_2, up_same, f54]
    have eo : ∀ cc i, cc ≠ 73 → w_2 cc i = w cc i := fun cc i h => by rw [hw_2, up_cell _ _ _ _ h]; exact ef cc i (Or.inl h)
    have hlb := hlg (w 73 54 - 1) (by omega) (by omega)
    have hmb := hmu (30 * (w 100 (4 * (w 73 54 - 1) + 1)) + (w 100 (4 * (w 73 54 - 1) + 3))) (by omega) (by omega)
    have hlvb := hlv (w 100 (4 * (w 73 54 - 1) + 2)) (by omega) (by omega)
    have hcb := hcy (by omega)
    have hclr := tb_clr (x := w 99 (30 * (w 100 (4 * (w 73 54 - 1) + 1)) + (w 100 (4 * (w 73 54 - 1) + 3)))) (i := (w 100 (4 * (w 73 54 - 1)))) hmb.1 (by omega) (by omega) (by omega)
    have hclr2 := inR_mk (z := iAnd (w 99 (30 * (w 100 (4 * (w 73 54 - 1) + 1)) + (w 100 (4 * (w 73 54 - 1) + 3)))) (iXor (iShl 1 (w 100 (4 * (w 73 54 - 1)))) (-1))) (by omega) hclr.1.2
    refine zA_aload_n dX12_back_24 rfl ?_
    refine zA_getR (n := 100) dX12_back_25 fX12_109 c73 rfl ?_
    refine zA_iconst dX12_back_28 ?_
    refine zA_aload_n dX12_back_29 rfl ?_
    refine zA_getI dX12_back_30 fX12_305 c73 rfl ?_
    refine zA_valI (w_2 73 54) rfl ?_
    refine zA_imul dX12_back_33 ?_
    refine zA_iaload dX12_back_34 c100 (by first | assumption | omega) (by first | assumption | omega) (by decide) ?_
    refine zA_valI (w 100 (4 * (w 73 54 - 1))) (by rw [h54]; exact eo 100 _ (by decide)) ?_
    refine zA_istore_n (lo1 := [zR 73, zI (w 100 (4 * (w 73 54 - 1))), .null]) dX12_back_35 (by decide) rfl rfl ?_
    refine zA_aload_n dX12_back_36 rfl ?_
    refine zA_getR (n := 100) dX12_back_37 fX12_109 c73 rfl ?_
    refine zA_iconst dX12_back_40 ?_
    refine zA_aload_n dX12_back_41 rfl ?_
    refine zA_getI dX12_back_42 fX12_305 c73 rfl ?_
    refine zA_valI (w_2 73 54) rfl ?_
    refine zA_imul dX12_back_45 ?_
    refine zA_iconst dX12_back_46 ?_
    refine zA_iadd dX12_back_47 ?_
    refine zA_iaload dX12_back_48 c100 (by first | assumption | omega) (by first | assumption | omega) (by decide) ?_
    refine zA_valI (w 100 (4 * (w 73 54 - 1) + 1)) (by rw [h54]; exact eo 100 _ (by decide)) ?_
    refine zA_istore_n (lo1 := [zR 73, zI (w 100 (4 * (w 73 54 - 1))), zI (w 100 (4 * (w 73 54 - 1) + 1))]) dX12_back_49 (by decide) rfl rfl ?_
    refine zA_aload_n dX12_back_50 rfl ?_
    refine zA_getR (n := 99) dX12_back_51 fX12_106 c73 rfl ?_
    refine zA_bipush dX12_back_54 rfl ?_
    refine zA_iload_n dX12_back_56 rfl ?_
    refine zA_imul dX12_back_57 ?_
    refine zA_aload_n dX12_back_58 rfl ?_
    refine zA_getR (n := 100) dX12_back_59 fX12_109 c73 rfl ?_
    refine zA_iconst dX12_back_62 ?_
    refine zA_aload_n dX12_back_63 rfl ?_
    refine zA_getI dX12_back_64 fX12_305 c73 rfl ?_
    refine zA_valI (w_2 73 54) rfl ?_
    refine zA_imul dX12_back_67 ?_
    refine zA_iconst dX12_back_68 ?_
    refine zA_iadd dX12_back_69 ?_
    refine zA_iaload dX12_back_70 c100 (by first | assumption | omega) (by first | assumption | omega) (by decide) ?_
    refine zA_valI (w 100 (4 * (w 73 54 - 1) + 3)) (by rw [h54]; exact eo 100 _ (by decide)) ?_
    refine zA_iadd dX12_back_71 ?_
    refine zA_dup2 dX12_back_72 rfl rfl ?_
    refine zA_iaload dX12_back_73 c99 (by first | assumption | omega) (by first | assumption | omega) (by decide) ?_
    refine zA_iconst dX12_back_74 ?_
    refine zA_iload_n dX12_back_75 rfl ?_
    refine zA_ishl dX12_back_76 ?_
    refine zA_iconst dX12_back_77 ?_
    refine zA_ixor dX12_back_78 ?_
    refine zA_iand dX12_back_79 ?_
    refine zA_valI (iAnd (w 99 (30 * (w 100 (4 * (w 73 54 - 1) + 1)) + (w 100 (4 * (w 73 54 - 1) + 3)))) (iXor (iShl 1 (w 100 (4 * (w 73 54 - 1)))) (-1))) (by rw [eo 99 _ (by decide)]) ?_
    refine zA_iastore dX12_back_80 (by first | assumption | exact hr _ _ | exact inR_mk (by omega) (by omega)) c99 (by first | assumption | omega) (by first | assumption | omega) (by decide) ?_
    refine zA_namew (fun w_3 hw_3 => ?_)
    refine zA_range (fun hr => ?_)
    replace hw_3 : w_3 = up w_2 99 ((30 * (w 100 (4 * (w 73 54 - 1) + 1))) + (w 100 (4 * (w 73 54 - 1) + 3))) (iAnd (w 99 (30 * (w 100 (4 * (w 73 54 - 1) + 1)) + (w 100 (4 * (w 73 54 - 1) + 3)))) (iXor (iShl 1 (w 100 (4 * (w 73 54 - 1)))) (-1))) := hw_3
    have h543 : w_3 73 54 = w 73 54 - 1 := by rw [hw_3, up_cell _ _ _ _ (by decide)]; exact h54
    refine zA_aload_n dX12_back_81 rfl ?_
    refine zA_getR (n := 95) dX12_back_82 fX12_94 c73 rfl ?_
    refine zA_aload_n dX12_back_85 rfl ?_
    refine zA_getR (n := 100) dX12_back_86 fX12_109 c73 rfl ?_
    refine zA_iconst dX12_back_89 ?_
    refine zA_aload_n dX12_back_90 rfl ?_
    refine zA_getI dX12_back_91 fX12_305 c73 rfl ?_
    refine zA_valI (w_3 73 54) rfl ?_
    refine zA_imul dX12_back_94 ?_
    refine zA_iconst dX12_back_95 ?_
    refine zA_iadd dX12_back_96 ?_
    refine zA_iaload dX12_back_97 c100 (by first | assumption | omega) (by first | assumption | omega) (by decide) ?_
    refine zA_valI (w 100 (4 * (w 73 54 - 1) + 2)) (by rw [h543, hw_3, up_cell _ _ _ _ (by decide)]; exact eo 100 _ (by decide)) ?_
    refine zA_dup2 dX12_back_98 rfl rfl ?_
    refine zA_iaload dX12_back_99 c95 (by first | assumption | omega) (by first | assumption | omega) (by decide) ?_
    refine zA_aload_n dX12_back_100 rfl ?_
    refine zA_getR (n := 79) dX12_back_101 fX12_38 c73 rfl ?_
    refine zA_iload_n dX12_back_104 rfl ?_
    refine zA_iaload dX12_back_105 c79 (by first | assumption | omega) (by first | assumption | omega) (by decide) ?_
    refine zA_iadd dX12_back_106 ?_
    refine zA_valI (w 95 (w 100 (4 * (w 73 54 - 1) + 2)) + w 79 (w 100 (4 * (w 73 54 - 1) + 1))) (by rw [hw_3, up_cell _ _ _ _ (by decide), up_cell _ _ _ _ (by decide), eo 95 _ (by decide), eo 79 _ (by decide)]) ?_
    refine zA_iastore dX12_back_107 (by first | assumption | exact hr _ _ | exact inR_mk (by omega) (by omega)) c95 (by first | assumption | omega) (by first | assumption | omega) (by decide) ?_
    refine zA_namew (fun w_4 hw_4 => ?_)
    refine zA_range (fun hr => ?_)
    replace hw_4 : w_4 = up w_3 95 (w 100 (4 * (w 73 54 - 1) + 2)) (w 95 (w 100 (4 * (w 73 54 - 1) + 2)) + w 79 (w 100 (4 * (w 73 54 - 1) + 1))) := hw_4
    refine zA_aload_n dX12_back_108 rfl ?_
    refine zA_getR (n := 98) dX12_back_109 fX12_103 c73 rfl ?_
    refine zA_iconst dX12_back_112 ?_
    refine zA_dup2 dX12_back_113 rfl rfl ?_
    refine zA_iaload dX12_back_114 c98 (by first | assumption | omega) (by first | assumption | omega) (by decide) ?_
    refine zA_iconst dX12_back_115 ?_
    refine zA_isub dX12_back_116 ?_
    refine zA_valI (w 98 0 - 1) (by rw [hw_4, up_cell _ _ _ _ (by decide), hw_3, up_cell _ _ _ _ (by decide), eo 98 _ (by decide)]) ?_
    refine zA_iastore dX12_back_117 (by first | assumption | exact hr _ _ | exact inR_mk (by omega) (by omega)) c98 (by first | assumption | omega) (by first | assumption | omega) (by decide) ?_
    refine zA_namew (fun w_5 hw_5 => ?_)
    refine zA_range (fun hr => ?_)
    replace hw_5 : w_5 = up w_4 98 0 (w 98 0 - 1) := hw_5
    refine zA_iload_n dX12_back_118 rfl ?_
    refine zA_iret dX12_back_119 rfl ?_
    exact ⟨rfl, Or.inr ⟨by omega, rfl, by rw [hw_5, hw_4, hw_3, hw_2, f54, hw_1]⟩⟩
  · skip
    refine zA_iconst dX12_back_12 ?_
    refine zA_iret dX12_back_13 rfl ?_
    exact ⟨rfl, Or.inl ⟨by omega, rfl, hw_1⟩⟩
