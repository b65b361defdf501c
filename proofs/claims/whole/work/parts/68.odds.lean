/-! odds -/
def dayF (st : Int → Int) (d v : Int) : Nat → Int
  | 0 => v
  | k + 1 => dayF st d v k * (100 - st (d + k)) / 100
def odF (bg ds st : Int → Int) : Nat → Int
  | 0 => 1000000
  | i + 1 => dayF st (bg i) (odF bg ds st i) (ds i).toNat
def dbF (bg ds : Int → Int) (day : Int) : Nat → Int
  | 0 => 0
  | i + 1 => dbF bg ds day i + (if bg i + ds i ≤ day then 1 else 0)
def isFs (st : Int → Int) (a r : Int) : Prop := (0 ≤ r ∧ r ≤ 30) ∧ (∀ d : Int, 0 ≤ d → d < r → st d ≤ a) ∧ (r = 30 ∨ a < st r)
theorem isFs_u {st st' : Int → Int} {a r r' : Int} (hs : ∀ d : Int, 0 ≤ d → d < 30 → st d = st' d) (h : isFs st a r) (h' : isFs st' a r') : r = r' := by
  obtain ⟨h1, h2, h3⟩ := h
  obtain ⟨k1, k2, k3⟩ := h'
  rcases Int.lt_trichotomy r r' with g | g | g
  · have := k2 r h1.1 g; rw [← hs r h1.1 (by omega)] at this; omega
  · exact g
  · have := h2 r' k1.1 g; rw [hs r' k1.1 (by omega)] at this; omega
def okPl (bg ds : Int → Int) (m : Int) : Prop := ∀ i : Int, 0 ≤ i → i < m → 0 ≤ bg i ∧ (1 ≤ ds i ∧ ds i ≤ 9) ∧ bg i + ds i ≤ 30
def okSt (st : Int → Int) : Prop := ∀ d : Int, 0 ≤ d → d < 30 → 0 ≤ st d ∧ st d ≤ 100
theorem odv_b {v s : Int} (v0 : 0 ≤ v) (v1 : v ≤ 1000000) (s0 : 0 ≤ s) (s1 : s ≤ 100) : (0 ≤ v * (100 - s) ∧ v * (100 - s) ≤ 100000000) ∧ 0 ≤ v * (100 - s) / 100 ∧ v * (100 - s) / 100 ≤ 1000000 := by
  have h := zmulB (x := v) (y := 100 - s) (A := 1000000) (B := 100) v0 v1 (by omega) (by omega)
  generalize v * (100 - s) = z at h
  omega
theorem dayF_b {st : Int → Int} {d v : Int} (hs : okSt st) (d0 : 0 ≤ d) (v0 : 0 ≤ v) (v1 : v ≤ 1000000) : ∀ k : Nat, d + k ≤ 30 → 0 ≤ dayF st d v k ∧ dayF st d v k ≤ 1000000 := by
  intro k
  induction k with
  | zero => intro _; exact ⟨v0, v1⟩
  | succ k ih =>
    intro hk
    have h := ih (by omega)
    have h2 := hs (d + k) (by omega) (by omega)
    exact (odv_b h.1 h.2 h2.1 h2.2).2
theorem odF_b {bg ds st : Int → Int} {m : Int} (hs : okSt st) (hp : okPl bg ds m) : ∀ i : Nat, (i : Int) ≤ m → 0 ≤ odF bg ds st i ∧ odF bg ds st i ≤ 1000000 := by
  intro i
  induction i with
  | zero => intro _; simp [odF]
  | succ i ih =>
    intro hi
    have h := ih (by omega)
    have h2 := hp i (by omega) (by omega)
    exact dayF_b hs h2.1 h.1 h.2 _ (by omega)
theorem dbF_b {bg ds : Int → Int} {day : Int} : ∀ i : Nat, 0 ≤ dbF bg ds day i ∧ dbF bg ds day i ≤ i := by
  intro i
  induction i with
  | zero => exact ⟨Int.le_refl _, Int.le_refl _⟩
  | succ i ih => simp only [dbF]; split <;> omega
def cDs (w : zW) (y : Nat) : Int → Int := fun i => w (y + 4) (w 25 i * 6 + 1)
def mDs (w : zW) : Int → Int := fun i => w 81 (6 * w 87 i + 1)
set_option maxRecDepth 100000 in
set_option maxHeartbeats 4000000 in
theorem s_firstStorm {l : Launch} {t dr tx : Nat} {w : zW} {a : Int} (ha : inR a) : zSp l mX11_firstStorm false 1 0 0 [zR 0, zI a] (ZZ t dr tx) w (zRp1 (isFs (w 28) a) (ZZ t dr tx) w) zNo := by
  refine zA_intro ⟨plainFor_of_name (by decide +kernel), Or.inl (by decide +kernel)⟩ rfl (Nat.le_of_ble_eq_true rfl) ?_
  refine zA_range (fun hr => ?_)
  show zA l mX11_firstStorm false 1 0 0 (zRp1 (isFs (w 28) a) (ZZ t dr tx) w) zNo 0 [zR 0, zI a, .null] [] (ZZ t dr tx) w
  refine zA_iconst dX11_firstStorm_0 ?_
  refine zA_istore_n (lo1 := [zR 0, zI a, zI 0]) dX11_firstStorm_1 (by decide) rfl rfl ?_
  have L2 : ∀ (z2 : Nat) (d : Int) (d0 : 0 ≤ d) (d1 : d ≤ 30) (hd : ∀ x : Int, 0 ≤ x → x < d → w 28 x ≤ a) (zm : (30 - d).toNat < z2), zA l mX11_firstStorm false 1 0 0 (zRp1 (isFs (w 28) a) (ZZ t dr tx) w) zNo 2 [zR 0, zI a, zI d] [] (ZZ t dr tx) w := by
    intro z2
    induction z2 with
    | zero => intro d d0 d1 hd zm; exact absurd zm (Nat.not_lt_zero _)
    | succ z2 ih2 =>
      intro d d0 d1 hd zm
      refine zA_iload_n dX11_firstStorm_2 rfl ?_
      refine zA_bipush dX11_firstStorm_3 rfl ?_
      refine zA_icmp_ge (tgt := 26) dX11_firstStorm_5 (by decide) (by first | assumption | exact hr _ _ | exact inR_mk (by omega) (by omega)) ⟨by decide, by decide⟩ (fun c5 => ?_) (fun c5 => ?_)
      · skip
        refine zA_bipush dX11_firstStorm_26 rfl ?_
        refine zA_iret dX11_firstStorm_28 rfl ?_
        exact ⟨⟨_, rfl, by omega, fun x p q => hd x p (by omega), Or.inl rfl⟩, rfl, rfl⟩
      · skip
        refine zA_aload_n dX11_firstStorm_8 rfl ?_
        refine zA_getR (n := 28) dX11_firstStorm_9 fX11_44 c0 rfl ?_
        refine zA_iload_n dX11_firstStorm_12 rfl ?_
        refine zA_iaload dX11_firstStorm_13 c28 (by first | assumption | omega) (by first | assumption | omega) (by decide) ?_
        refine zA_iload_n dX11_firstStorm_14 rfl ?_
        refine zA_icmp_le (tgt := 20) dX11_firstStorm_15 (by decide) (by first | assumption | exact hr _ _ | exact inR_mk (by omega) (by omega)) (by first | assumption | exact hr _ _ | exact inR_mk (by omega) (by omega)) (fun c15 => ?_) (fun c15 => ?_)
        · skip
          refine zA_iinc (lo1 := [zR 0, zI a, zI (d + 1)]) dX11_firstStorm_20 rfl (by decide) rfl rfl ?_
          refine zA_goto (tgt := 2) dX11_firstStorm_23 (by decide) ?_
          exact ih2 (d + 1) (by omega) (by omega) (fun x p q => by
                      by_cases e : x = d
                      · rw [e]; omega
                      · exact hd x p (by omega)) (by omega)
        · skip
          refine zA_iload_n dX11_firstStorm_18 rfl ?_
          refine zA_iret dX11_firstStorm_19 rfl ?_
          exact ⟨⟨_, rfl, by omega, hd, Or.inr (by omega)⟩, rfl, rfl⟩
  exact L2 _ 0 (by omega) (by omega) (fun x p q => by omega) (Nat.lt_succ_self _)

set_option maxRecDepth 100000 in
set_option maxHeartbeats 4000000 in
theorem s_chanceToGo {l : Launch} {t dr tx : Nat} {w : zW} {y : Nat} (hy : y = 4 ∨ y = 10) (m0 : 0 ≤ w 16 12) (m1 : w 16 12 ≤ 8) (hrw : ∀ i : Int, 0 ≤ i → i < w 16 12 → 0 ≤ w 25 i ∧ w 25 i < 8) (hp : okPl (w 26) (cDs w y) (w 16 12)) (hs : okSt (w 28)) : zSp l mX6_chanceToGo false 2 0 0 [zR 16, zR y, zR 28] (ZZ t dr tx) w (zRt (some (zI (odF (w 26) (cDs w y) (w 28) (w 16 12).toNat))) (ZZ t dr tx) w) zNo := by
  refine zA_intro ⟨plainFor_of_name (by decide +kernel), Or.inl (by decide +kernel)⟩ rfl (Nat.le_of_ble_eq_true rfl) ?_
  refine zA_range (fun hr => ?_)
  show zA l mX6_chanceToGo false 2 0 0 (zRt (some (zI (odF (w 26) (cDs w y) (w 28) (w 16 12).toNat))) (ZZ t dr tx) w) zNo 0 [zR 16, zR y, zR 28, .null, .null, .null, .null] [] (ZZ t dr tx) w
  refine zA_ldc dX6_chanceToGo_0 qX6_148 ?_
  refine zA_istore_n (lo1 := [zR 16, zR y, zR 28, zI 1000000, .null, .null, .null]) dX6_chanceToGo_2 (by decide) rfl rfl ?_
  refine zA_iconst dX6_chanceToGo_3 ?_
  refine zA_istore (lo1 := [zR 16, zR y, zR 28, zI 1000000, zI 0, .null, .null]) dX6_chanceToGo_4 (by decide) rfl rfl ?_
  have L6 : ∀ (z6 : Nat) (v i : Int) (i0 : 0 ≤ i) (i1 : i ≤ w 16 12) (hv : v = (odF (w 26) (cDs w y) (w 28) i.toNat)) (zm : (w 16 12 - i).toNat < z6), zA l mX6_chanceToGo false 2 0 0 (zRt (some (zI (odF (w 26) (cDs w y) (w 28) (w 16 12).toNat))) (ZZ t dr tx) w) zNo 6 [zR 16, zR y, zR 28, zI v, zI i, .null, .null] [] (ZZ t dr tx) w := by
    intro z6
    induction z6 with
    | zero => intro v i i0 i1 hv zm; exact absurd zm (Nat.not_lt_zero _)
    | succ z6 ih6 =>
      intro v i i0 i1 hv zm
      refine zA_iload dX6_chanceToGo_6 rfl ?_
      refine zA_aload_n dX6_chanceToGo_8 rfl ?_
      refine zA_getI dX6_chanceToGo_9 fX6_49 c16 rfl ?_
      refine zA_valI (w 16 12) rfl ?_
      refine zA_icmp_ge (tgt := 78) dX6_chanceToGo_12 (by decide) (by first | assumption | exact hr _ _ | exact inR_mk (by omega) (by omega)) (by first | assumption | exact hr _ _ | exact inR_mk (by omega) (by omega)) (fun c12 => ?_) (fun c12 => ?_)
      · skip
        refine zA_iload_n dX6_chanceToGo_78 rfl ?_
        refine zA_iret dX6_chanceToGo_79 rfl ?_
        exact zRt_i (by rw [hv, show i = w 16 12 by omega])
      · skip
        have hpi := hp i i0 (by omega)
        have hob := odF_b hs hp i.toNat (by omega)
        refine zA_aload_n dX6_chanceToGo_15 rfl ?_
        refine zA_getR (n := 26) dX6_chanceToGo_16 fX6_43 c16 rfl ?_
        refine zA_iload dX6_chanceToGo_19 rfl ?_
        refine zA_iaload dX6_chanceToGo_21 c26 (by first | assumption | omega) (by first | assumption | omega) (by decide) ?_
        refine zA_aload_n dX6_chanceToGo_22 rfl ?_
        refine zA_aload_n dX6_chanceToGo_23 rfl ?_
        refine zA_getR (n := 25) dX6_chanceToGo_24 fX6_40 c16 rfl ?_
        refine zA_iload dX6_chanceToGo_27 rfl ?_
        refine zA_iaload dX6_chanceToGo_29 c25 (by first | assumption | omega) (by first | assumption | omega) (by decide) ?_
        refine zA_iconst dX6_chanceToGo_30 ?_
        refine zA_cV (st := [zI (w 26 i)]) dX6_chanceToGo_31 vX10_fact kX6_91 (s_fact (w := w) (a := w 25 i) (k := 1) hy (by have := hrw i (by omega) (by omega); omega) (by have := hrw i (by omega) (by omega); omega) (by decide) (by decide)) (by decide) (cY0 hy) rfl rfl (Nat.le_of_ble_eq_true rfl) rfl (zRt_el ?_)
        show zA l mX6_chanceToGo false 2 0 0 (zRt (some (zI (odF (w 26) (cDs w y) (w 28) (w 16 12).toNat))) (ZZ t dr tx) w) zNo 34 [zR 16, zR y, zR 28, zI v, zI i, .null, .null] [zI (cDs w y i), zI (w 26 i)] (ZZ t dr tx) w
        refine zA_iadd dX6_chanceToGo_34 ?_
        refine zA_istore (lo1 := [zR 16, zR y, zR 28, zI v, zI i, zI ((w 26 i) + (cDs w y i)), .null]) dX6_chanceToGo_35 (by decide) rfl rfl ?_
        refine zA_aload_n dX6_chanceToGo_37 rfl ?_
        refine zA_getR (n := 26) dX6_chanceToGo_38 fX6_43 c16 rfl ?_
        refine zA_iload dX6_chanceToGo_41 rfl ?_
        refine zA_iaload dX6_chanceToGo_43 c26 (by first | assumption | omega) (by first | assumption | omega) (by decide) ?_
        refine zA_istore (lo1 := [zR 16, zR y, zR 28, zI v, zI i, zI ((w 26 i) + (cDs w y i)), zI (w 26 i)]) dX6_chanceToGo_44 (by decide) rfl rfl ?_
        have L46 : ∀ (z46 : Nat) (v2 dd k : Int) (k0 : 0 ≤ k) (k1 : k ≤ cDs w y i) (hdd : dd = w 26 i + k) (hv2 : v2 = dayF (w 28) (w 26 i) (odF (w 26) (cDs w y) (w 28) i.toNat) k.toNat) (zm : (cDs w y i - k).toNat < z46), zA l mX6_chanceToGo false 2 0 0 (zRt (some (zI (odF (w 26) (cDs w y) (w 28) (w 16 12).toNat))) (ZZ t dr tx) w) zNo 46 [zR 16, zR y, zR 28, zI v2, zI i, zI (w 26 i + cDs w y i), zI dd] [] (ZZ t dr tx) w := by
          intro z46
          induction z46 with
          | zero => intro v2 dd k k0 k1 hdd hv2 zm; exact absurd zm (Nat.not_lt_zero _)
          | succ z46 ih46 =>
            intro v2 dd k k0 k1 hdd hv2 zm
            refine zA_iload dX6_chanceToGo_46 rfl ?_
            refine zA_iload dX6_chanceToGo_48 rfl ?_
            refine zA_icmp_ge (tgt := 72) dX6_chanceToGo_50 (by decide) (by first | assumption | exact hr _ _ | exact inR_mk (by omega) (by omega)) (by first | assumption | exact hr _ _ | exact inR_mk (by omega) (by omega)) (fun c50 => ?_) (fun c50 => ?_)
            · skip
              refine zA_iinc (lo1 := [zR 16, zR y, zR 28, zI v2, zI (i + 1), zI (w 26 i + cDs w y i), zI dd]) dX6_chanceToGo_72 rfl (by decide) rfl rfl ?_
              refine zA_goto (tgt := 6) dX6_chanceToGo_75 (by decide) ?_
              refine zA_drop 5 (lo1 := [zR 16, zR y, zR 28, zI v2, zI (i + 1), .null, zI dd]) rfl ?_
              refine zA_drop 6 (lo1 := [zR 16, zR y, zR 28, zI v2, zI (i + 1), .null, .null]) rfl ?_
              exact ih6 _ (i + 1) (by omega) (by omega) (by rw [zsucc i0]; simp only [odF]; rw [zcast i0, hv2, show k = cDs w y i by omega]) (by omega)
            · skip
              have hdb := dayF_b (v := (odF (w 26) (cDs w y) (w 28) i.toNat)) hs hpi.1 hob.1 hob.2 k.toNat (by omega)
              rw [← hv2] at hdb
              have hsd := hs dd (by omega) (by omega)
              have hvv := odv_b hdb.1 hdb.2 hsd.1 hsd.2
              refine zA_iload_n dX6_chanceToGo_53 rfl ?_
              refine zA_bipush dX6_chanceToGo_54 rfl ?_
              refine zA_aload_n dX6_chanceToGo_56 rfl ?_
              refine zA_iload dX6_chanceToGo_57 rfl ?_
              refine zA_iaload dX6_chanceToGo_59 c28 (by first | assumption | omega) (by first | assumption | omega) (by decide) ?_
              refine zA_isub dX6_chanceToGo_60 ?_
              refine zA_imul dX6_chanceToGo_61 ?_
              refine zA_bipush dX6_chanceToGo_62 rfl ?_
              refine zA_idiv dX6_chanceToGo_64 (by first | assumption | omega) (by first | assumption | omega) (by first | assumption | omega) (by first | assumption | omega) ?_
              refine zA_istore_n (lo1 := [zR 16, zR y, zR 28, zI ((v2 * (100 - (w 28 dd))) / 100), zI i, zI (w 26 i + cDs w y i), zI dd]) dX6_chanceToGo_65 (by decide) rfl rfl ?_
              refine zA_iinc (lo1 := [zR 16, zR y, zR 28, zI ((v2 * (100 - (w 28 dd))) / 100), zI i, zI (w 26 i + cDs w y i), zI (dd + 1)]) dX6_chanceToGo_66 rfl (by decide) rfl rfl ?_
              refine zA_goto (tgt := 46) dX6_chanceToGo_69 (by decide) ?_
              exact ih46 _ _ (k + 1) (by omega) (by omega) (by omega) (by rw [zsucc k0]; simp only [dayF]; rw [zcast k0, ← hv2, ← hdd]) (by omega)
        exact L46 _ v (w 26 i) 0 (by omega) (by omega) (by omega) (by rw [hv]; rfl) (Nat.lt_succ_self _)
  exact L6 _ 1000000 0 (by omega) (by omega) rfl (Nat.lt_succ_self _)

set_option maxRecDepth 100000 in
set_option maxHeartbeats 4000000 in
theorem s_doneBefore {l : Launch} {t dr tx : Nat} {w : zW} {y : Nat} (hy : y = 4 ∨ y = 10) (m0 : 0 ≤ w 16 12) (m1 : w 16 12 ≤ 8) (hrw : ∀ i : Int, 0 ≤ i → i < w 16 12 → 0 ≤ w 25 i ∧ w 25 i < 8) (hp : okPl (w 26) (cDs w y) (w 16 12)) {q : Int} (hq : inR q) : zSp l mX6_doneBefore false 2 0 0 [zR 16, zR y, zI q] (ZZ t dr tx) w (zRt (some (zI (dbF (w 26) (cDs w y) q (w 16 12).toNat))) (ZZ t dr tx) w) zNo := by
  refine zA_intro ⟨plainFor_of_name (by decide +kernel), Or.inl (by decide +kernel)⟩ rfl (Nat.le_of_ble_eq_true rfl) ?_
  refine zA_range (fun hr => ?_)
  show zA l mX6_doneBefore false 2 0 0 (zRt (some (zI (dbF (w 26) (cDs w y) q (w 16 12).toNat))) (ZZ t dr tx) w) zNo 0 [zR 16, zR y, zI q, .null, .null] [] (ZZ t dr tx) w
  refine zA_iconst dX6_doneBefore_0 ?_
  refine zA_istore_n (lo1 := [zR 16, zR y, zI q, zI 0, .null]) dX6_doneBefore_1 (by decide) rfl rfl ?_
  refine zA_iconst dX6_doneBefore_2 ?_
  refine zA_istore (lo1 := [zR 16, zR y, zI q, zI 0, zI 0]) dX6_doneBefore_3 (by decide) rfl rfl ?_
  have L5 : ∀ (z5 : Nat) (v i : Int) (i0 : 0 ≤ i) (i1 : i ≤ w 16 12) (hv : v = dbF (w 26) (cDs w y) q i.toNat) (zm : (w 16 12 - i).toNat < z5), zA l mX6_doneBefore false 2 0 0 (zRt (some (zI (dbF (w 26) (cDs w y) q (w 16 12).toNat))) (ZZ t dr tx) w) zNo 5 [zR 16, zR y, zI q, zI v, zI i] [] (ZZ t dr tx) w := by
    intro z5
    induction z5 with
    | zero => intro v i i0 i1 hv zm; exact absurd zm (Nat.not_lt_zero _)
    | succ z5 ih5 =>
      intro v i i0 i1 hv zm
      refine zA_iload dX6_doneBefore_5 rfl ?_
      refine zA_aload_n dX6_doneBefore_7 rfl ?_
      refine zA_getI dX6_doneBefore_8 fX6_49 c16 rfl ?_
      refine zA_valI (w 16 12) rfl ?_
      refine zA_icmp_ge (tgt := 47) dX6_doneBefore_11 (by decide) (by first | assumption | exact hr _ _ | exact inR_mk (by omega) (by omega)) (by first | assumption | exact hr _ _ | exact inR_mk (by omega) (by omega)) (fun c11 => ?_) (fun c11 => ?_)
      · skip
        refine zA_iload_n dX6_doneBefore_47 rfl ?_
        refine zA_iret dX6_doneBefore_48 rfl ?_
        exact zRt_i (by rw [hv, show i = w 16 12 by omega])
      · skip
        have hpi := hp i i0 (by omega)
        refine zA_aload_n dX6_doneBefore_14 rfl ?_
        refine zA_getR (n := 26) dX6_doneBefore_15 fX6_43 c16 rfl ?_
        refine zA_iload dX6_doneBefore_18 rfl ?_
        refine zA_iaload dX6_doneBefore_20 c26 (by first | assumption | omega) (by first | assumption | omega) (by decide) ?_
        refine zA_aload_n dX6_doneBefore_21 rfl ?_
        refine zA_aload_n dX6_doneBefore_22 rfl ?_
        refine zA_getR (n := 25) dX6_doneBefore_23 fX6_40 c16 rfl ?_
        refine zA_iload dX6_doneBefore_26 rfl ?_
        refine zA_iaload dX6_doneBefore_28 c25 (by first | assumption | omega) (by first | assumption | omega) (by decide) ?_
        refine zA_iconst dX6_doneBefore_29 ?_
        refine zA_cV (st := [zI (w 26 i)]) dX6_doneBefore_30 vX10_fact kX6_91 (s_fact (w := w) (a := w 25 i) (k := 1) hy (by have := hrw i (by omega) (by omega); omega) (by have := hrw i (by omega) (by omega); omega) (by decide) (by decide)) (by decide) (cY0 hy) rfl rfl (Nat.le_of_ble_eq_true rfl) rfl (zRt_el ?_)
        show zA l mX6_doneBefore false 2 0 0 (zRt (some (zI (dbF (w 26) (cDs w y) q (w 16 12).toNat))) (ZZ t dr tx) w) zNo 33 [zR 16, zR y, zI q, zI v, zI i] [zI (cDs w y i), zI (w 26 i)] (ZZ t dr tx) w
        refine zA_iadd dX6_doneBefore_33 ?_
        refine zA_iload_n dX6_doneBefore_34 rfl ?_
        refine zA_icmp_gt (tgt := 41) dX6_doneBefore_35 (by decide) (by first | assumption | exact hr _ _ | exact inR_mk (by omega) (by omega)) (by first | assumption | exact hr _ _ | exact inR_mk (by omega) (by omega)) (fun c35 => ?_) (fun c35 => ?_)
        · skip
          refine zA_iinc (lo1 := [zR 16, zR y, zI q, zI v, zI (i + 1)]) dX6_doneBefore_41 rfl (by decide) rfl rfl ?_
          refine zA_goto (tgt := 5) dX6_doneBefore_44 (by decide) ?_
          exact ih5 _ (i + 1) (by omega) (by omega) (by rw [zsucc i0]; simp only [dbF]; rw [zcast i0, if_neg (by omega), hv]; omega) (by omega)
        · skip
          refine zA_iinc (lo1 := [zR 16, zR y, zI q, zI (v + 1), zI i]) dX6_doneBefore_38 rfl (by decide) rfl rfl ?_
          refine zA_iinc (lo1 := [zR 16, zR y, zI q, zI (v + 1), zI (i + 1)]) dX6_doneBefore_41 rfl (by decide) rfl rfl ?_
          refine zA_goto (tgt := 5) dX6_doneBefore_44 (by decide) ?_
          exact ih5 _ (i + 1) (by omega) (by omega) (by rw [zsucc i0]; simp only [dbF]; rw [zcast i0, if_pos (by omega), hv]) (by omega)
  exact L5 _ 0 0 (by omega) (by omega) rfl (Nat.lt_succ_self _)

set_option maxRecDepth 100000 in
set_option maxHeartbeats 4000000 in
theorem s_odds {l : Launch} {t dr tx : Nat} {w : zW} (ht : t = 4 ∨ t = 10) {k : Int} (hk : inR k) (hb : w 16 15 = 0 ∨ w 16 15 = 1) (hM : w 16 15 = 1 → (0 ≤ w 16 12 ∧ w 16 12 ≤ 8) ∧ (∀ i : Int, 0 ≤ i → i < w 16 12 → 0 ≤ w 25 i ∧ w 25 i < 8) ∧ okPl (w 26) (cDs w t) (w 16 12)) (hs : okSt (w 28)) : zSp l mX11_odds false 3 1 6 [zR 0, zI k] (ZZ t dr tx) w (fun v' S' w' => (0 ≤ k ∧ k < 102) ∧ S' = (ZZ t dr tx) ∧ w' = w ∧ ((w 16 15 = 0 ∧ v' = some (zI (-1))) ∨ (w 16 15 = 1 ∧ ∃ r, v' = some (zI r) ∧ (fun r => (k = 0 → r = odF (w 26) (cDs w t) (w 28) (w 16 12).toNat) ∧ (k ≠ 0 → ∃ fs, isFs (w 28) (k - 1) fs ∧ r = dbF (w 26) (cDs w t) fs (w 16 12).toNat)) r))) (zXp (¬ (0 ≤ k ∧ k < 102)) (False) (ZZ t dr tx) w) := by
  refine zA_intro ⟨plainFor_of_name (by decide +kernel), Or.inl (by decide +kernel)⟩ rfl (Nat.le_of_ble_eq_true rfl) ?_
  refine zA_range (fun hr => ?_)
  show zA l mX11_odds false 3 1 6 (fun v' S' w' => (0 ≤ k ∧ k < 102) ∧ S' = (ZZ t dr tx) ∧ w' = w ∧ ((w 16 15 = 0 ∧ v' = some (zI (-1))) ∨ (w 16 15 = 1 ∧ ∃ r, v' = some (zI r) ∧ (fun r => (k = 0 → r = odF (w 26) (cDs w t) (w 28) (w 16 12).toNat) ∧ (k ≠ 0 → ∃ fs, isFs (w 28) (k - 1) fs ∧ r = dbF (w 26) (cDs w t) fs (w 16 12).toNat)) r))) (zXp (¬ (0 ≤ k ∧ k < 102)) (False) (ZZ t dr tx) w) 0 [zR 0, zI k] [] (ZZ t dr tx) w
  refine zA_iload_n dX11_odds_0 rfl ?_
  refine zA_bipush dX11_odds_1 rfl ?_
  refine zA_callS (bc2 := 0) (bs2 := 0) (st := []) dX11_odds_3 sX11_askWhat kX11_165 (s_askWhat (w := w) (c := k) (n := 102) (by first | assumption | exact hr _ _ | exact inR_mk (by omega) (by omega)) ⟨by decide, by decide⟩) (by decide) rfl rfl (Nat.le_of_ble_eq_true rfl) ⟨rfl, rfl⟩ (zRa_el (fun h_3 => ?_)) (zXp_m rfl (fun h => by first | exact h.elim | omega) (fun h => by first | exact h.elim | omega))
  show zA l mX11_odds false 3 0 0 (fun v' S' w' => (0 ≤ k ∧ k < 102) ∧ S' = (ZZ t dr tx) ∧ w' = w ∧ ((w 16 15 = 0 ∧ v' = some (zI (-1))) ∨ (w 16 15 = 1 ∧ ∃ r, v' = some (zI r) ∧ (fun r => (k = 0 → r = odF (w 26) (cDs w t) (w 28) (w 16 12).toNat) ∧ (k ≠ 0 → ∃ fs, isFs (w 28) (k - 1) fs ∧ r = dbF (w 26) (cDs w t) fs (w 16 12).toNat)) r))) (zXp (¬ (0 ≤ k ∧ k < 102)) (False) (ZZ t dr tx) w) 6 [zR 0, zI k] [] (ZZ t dr tx) w
  refine zA_aload_n dX11_odds_6 rfl ?_
  refine zA_getR (n := 16) dX11_odds_7 fX11_40 c0 rfl ?_
  refine zA_getI dX11_odds_10 fX11_196 c16 rfl ?_
  refine zA_valI (w 16 15) rfl ?_
  refine zA_if_ne (tgt := 18) dX11_odds_13 (by decide) (by first | assumption | exact hr _ _ | exact inR_mk (by omega) (by omega)) (fun c13 => ?_) (fun c13 => ?_)
  · skip
    obtain ⟨⟨m0, m1⟩, hrw, hp⟩ := hM (by omega)
    refine zA_iload_n dX11_odds_18 rfl ?_
    refine zA_if_ne (tgt := 40) dX11_odds_19 (by decide) (by first | assumption | exact hr _ _ | exact inR_mk (by omega) (by omega)) (fun c19 => ?_) (fun c19 => ?_)
    · skip
      refine zA_aload_n dX11_odds_40 rfl ?_
      refine zA_getR (n := 16) dX11_odds_41 fX11_40 c0 rfl ?_
      refine zA_aload_n dX11_odds_44 rfl ?_
      refine zA_getR (n := t) dX11_odds_45 fX11_30 c0 rfl ?_
      refine zA_aload_n dX11_odds_48 rfl ?_
      refine zA_iload_n dX11_odds_49 rfl ?_
      refine zA_iconst dX11_odds_50 ?_
      refine zA_isub dX11_odds_51 ?_
      refine zA_cV (st := [zR t, zR 16]) dX11_odds_52 vX11_firstStorm kX11_233 (s_firstStorm (w := w) (a := k - 1) (inR_mk (by omega) (by omega))) (by decide) c0 rfl rfl (Nat.le_of_ble_eq_true rfl) rfl (zRp1_el (fun fs hfs => ?_))
      refine zA_cV (st := []) dX11_odds_55 vX6_doneBefore kX11_237 (s_doneBefore (w := w) (y := t) ht m0 m1 hrw hp (q := fs) (inR_mk (by have := hfs.1; omega) (by have := hfs.1; omega))) (by decide) c16 rfl rfl (Nat.le_of_ble_eq_true rfl) rfl (zRt_el ?_)
      show zA l mX11_odds false 3 0 0 (fun v' S' w' => (0 ≤ k ∧ k < 102) ∧ S' = (ZZ t dr tx) ∧ w' = w ∧ ((w 16 15 = 0 ∧ v' = some (zI (-1))) ∨ (w 16 15 = 1 ∧ ∃ r, v' = some (zI r) ∧ (fun r => (k = 0 → r = odF (w 26) (cDs w t) (w 28) (w 16 12).toNat) ∧ (k ≠ 0 → ∃ fs, isFs (w 28) (k - 1) fs ∧ r = dbF (w 26) (cDs w t) fs (w 16 12).toNat)) r))) (zXp (¬ (0 ≤ k ∧ k < 102)) (False) (ZZ t dr tx) w) 58 [zR 0, zI k] [zI (dbF (w 26) (cDs w t) fs (w 16 12).toNat)] (ZZ t dr tx) w
      refine zA_iret dX11_odds_58 rfl ?_
      first
      | exact ⟨by omega, rfl, rfl, Or.inr ⟨by omega, _, rfl, fun h => by omega, fun _ => ⟨fs, hfs, rfl⟩⟩⟩
      | exact ⟨by omega, rfl, rfl, Or.inr ⟨by omega, _, rfl, fun _ => rfl, fun h => by omega⟩⟩
    · skip
      refine zA_aload_n dX11_odds_22 rfl ?_
      refine zA_getR (n := 16) dX11_odds_23 fX11_40 c0 rfl ?_
      refine zA_aload_n dX11_odds_26 rfl ?_
      refine zA_getR (n := t) dX11_odds_27 fX11_30 c0 rfl ?_
      refine zA_aload_n dX11_odds_30 rfl ?_
      refine zA_getR (n := 28) dX11_odds_31 fX11_44 c0 rfl ?_
      refine zA_cV (st := []) dX11_odds_34 vX6_chanceToGo kX11_229 (s_chanceToGo (w := w) (y := t) ht m0 m1 hrw hp hs) (by decide) c16 rfl rfl (Nat.le_of_ble_eq_true rfl) rfl (zRt_el ?_)
      show zA l mX11_odds false 3 0 0 (fun v' S' w' => (0 ≤ k ∧ k < 102) ∧ S' = (ZZ t dr tx) ∧ w' = w ∧ ((w 16 15 = 0 ∧ v' = some (zI (-1))) ∨ (w 16 15 = 1 ∧ ∃ r, v' = some (zI r) ∧ (fun r => (k = 0 → r = odF (w 26) (cDs w t) (w 28) (w 16 12).toNat) ∧ (k ≠ 0 → ∃ fs, isFs (w 28) (k - 1) fs ∧ r = dbF (w 26) (cDs w t) fs (w 16 12).toNat)) r))) (zXp (¬ (0 ≤ k ∧ k < 102)) (False) (ZZ t dr tx) w) 37 [zR 0, zI k] [zI (odF (w 26) (cDs w t) (w 28) (w 16 12).toNat)] (ZZ t dr tx) w
      refine zA_goto (tgt := 58) dX11_odds_37 (by decide) ?_
      refine zA_iret dX11_odds_58 rfl ?_
      first
      | exact ⟨by omega, rfl, rfl, Or.inr ⟨by omega, _, rfl, fun h => by omega, fun _ => ⟨fs, hfs, rfl⟩⟩⟩
      | exact ⟨by omega, rfl, rfl, Or.inr ⟨by omega, _, rfl, fun _ => rfl, fun h => by omega⟩⟩
  · skip
    refine zA_iconst dX11_odds_16 ?_
    refine zA_iret dX11_odds_17 rfl ?_
    exact ⟨by omega, rfl, rfl, Or.inl ⟨by omega, rfl⟩⟩

set_option maxRecDepth 100000 in
set_option maxHeartbeats 4000000 in
theorem m_lastDay {l : Launch} {t dr tx : Nat} {w : zW} (m0 : 0 ≤ w 73 26) (m1 : w 73 26 ≤ 8) (hrw : ∀ i : Int, 0 ≤ i → i < w 73 26 → 0 ≤ w 87 i ∧ w 87 i < 8) (hp : okPl (w 88) (mDs w) (w 73 26)) {i : Int} (i0 : 0 ≤ i) (i1 : i < w 73 26) : zSp l mX12_lastDay false 1 0 0 [zR 73, zI i] (ZZ t dr tx) w (zRt (some (zI (w 88 i + mDs w i - 1))) (ZZ t dr tx) w) zNo := by
  refine zA_intro ⟨plainFor_of_name (by decide +kernel), Or.inl (by decide +kernel)⟩ rfl (Nat.le_of_ble_eq_true rfl) ?_
  have hri := hrw i i0 i1
  refine zA_range (fun hr => ?_)
  show zA l mX12_lastDay false 1 0 0 (zRt (some (zI (w 88 i + mDs w i - 1))) (ZZ t dr tx) w) zNo 0 [zR 73, zI i] [] (ZZ t dr tx) w
  refine zA_aload_n dX12_lastDay_0 rfl ?_
  refine zA_getR (n := 88) dX12_lastDay_1 fX12_66 c73 rfl ?_
  refine zA_iload_n dX12_lastDay_4 rfl ?_
  refine zA_iaload dX12_lastDay_5 c88 (by first | assumption | omega) (by first | assumption | omega) (by decide) ?_
  refine zA_aload_n dX12_lastDay_6 rfl ?_
  refine zA_getR (n := 81) dX12_lastDay_7 fX12_43 c73 rfl ?_
  refine zA_bipush dX12_lastDay_10 rfl ?_
  refine zA_aload_n dX12_lastDay_12 rfl ?_
  refine zA_getR (n := 87) dX12_lastDay_13 fX12_63 c73 rfl ?_
  refine zA_iload_n dX12_lastDay_16 rfl ?_
  refine zA_iaload dX12_lastDay_17 c87 (by first | assumption | omega) (by first | assumption | omega) (by decide) ?_
  refine zA_imul dX12_lastDay_18 ?_
  refine zA_iconst dX12_lastDay_19 ?_
  refine zA_iadd dX12_lastDay_20 ?_
  refine zA_iaload dX12_lastDay_21 c81 (by first | assumption | omega) (by first | assumption | omega) (by decide) ?_
  refine zA_iadd dX12_lastDay_22 ?_
  refine zA_iconst dX12_lastDay_23 ?_
  refine zA_isub dX12_lastDay_24 ?_
  refine zA_iret dX12_lastDay_25 rfl ?_
  exact zRt_i rfl

set_option maxRecDepth 100000 in
set_option maxHeartbeats 4000000 in
theorem m_odds {l : Launch} {t dr tx : Nat} {w : zW} {k : Int} (hk : inR k) (hM : w 73 26 ≠ -1 → (0 ≤ w 73 26 ∧ w 73 26 ≤ 8) ∧ (∀ i : Int, 0 ≤ i → i < w 73 26 → 0 ≤ w 87 i ∧ w 87 i < 8) ∧ okPl (w 88) (mDs w) (w 73 26)) (hs : okSt (w 120)) : zSp l mX12_odds false 3 0 0 [zR 73, zI k] (ZZ t dr tx) w (fun v' S' w' => S' = (ZZ t dr tx) ∧ ((¬ (0 ≤ k ∧ k < 102) ∧ v' = some (zI 0) ∧ w' = up w 73 1 1) ∨ ((0 ≤ k ∧ k < 102) ∧ w' = up w 73 1 0 ∧ ((w 73 26 = -1 ∧ v' = some (zI (-1))) ∨ (w 73 26 ≠ -1 ∧ ∃ r, v' = some (zI r) ∧ (fun r => (k = 0 → r = odF (w 88) (mDs w) (w 120) (w 73 26).toNat) ∧ (k ≠ 0 → ∃ fs, isFs (w 120) (k - 1) fs ∧ r = dbF (w 88) (mDs w) fs (w 73 26).toNat)) r))))) zNo := by
  refine zA_intro ⟨plainFor_of_name (by decide +kernel), Or.inl (by decide +kernel)⟩ rfl (Nat.le_of_ble_eq_true rfl) ?_
  refine zA_range (fun hr => ?_)
  show zA l mX12_odds false 3 0 0 (fun v' S' w' => S' = (ZZ t dr tx) ∧ ((¬ (0 ≤ k ∧ k < 102) ∧ v' = some (zI 0) ∧ w' = up w 73 1 1) ∨ ((0 ≤ k ∧ k < 102) ∧ w' = up w 73 1 0 ∧ ((w 73 26 = -1 ∧ v' = some (zI (-1))) ∨ (w 73 26 ≠ -1 ∧ ∃ r, v' = some (zI r) ∧ (fun r => (k = 0 → r = odF (w 88) (mDs w) (w 120) (w 73 26).toNat) ∧ (k ≠ 0 → ∃ fs, isFs (w 120) (k - 1) fs ∧ r = dbF (w 88) (mDs w) fs (w 73 26).toNat)) r))))) zNo 0 [zR 73, zI k, .null, .null, .null] [] (ZZ t dr tx) w
  refine zA_aload_n dX12_odds_0 rfl ?_
  refine zA_iconst dX12_odds_1 ?_
  refine zA_putI dX12_odds_2 fX12_182 c73 rfl ⟨by decide, by decide⟩ ⟨rfl, rfl⟩ ?_
  refine zA_namew (fun w_1 hw_1 => ?_)
  refine zA_range (fun hr => ?_)
  replace hw_1 : w_1 = up w 73 1 0 := hw_1
  have ef : ∀ cc i, (cc ≠ 73 ∨ i ≠ 1) → w_1 cc i = w cc i := fun cc i h => by
    by_cases hc : cc = 73
    · subst hc; rw [hw_1, up_idx _ _ _ _ (by omega)]
    · rw [hw_1, up_cell _ _ _ _ hc]
  have ew : ∀ cc, cc ≠ 73 → w_1 cc = w cc := fun cc h => funext fun i => ef cc i (Or.inl h)
  have f26 : w_1 73 26 = w 73 26 := ef 73 26 (Or.inr (by decide))
  have fds : mDs w_1 = mDs w := by unfold mDs; rw [ew 81 (by decide), ew 87 (by decide)]
  refine zA_iload_n dX12_odds_5 rfl ?_
  refine zA_iconst dX12_odds_6 ?_
  refine zA_bipush dX12_odds_7 rfl ?_
  refine zA_cS (st := []) dX12_odds_9 sX12_isIn kX12_185 (m_isIn (w := w_1) (a := k) (b := 0) (e := 101) (by first | assumption | exact hr _ _ | exact inR_mk (by omega) (by omega)) ⟨by decide, by decide⟩ ⟨by decide, by decide⟩) (by decide) rfl rfl (Nat.le_of_ble_eq_true rfl) (zRt_el ?_)
  show zA l mX12_odds false 3 0 0 (fun v' S' w' => S' = (ZZ t dr tx) ∧ ((¬ (0 ≤ k ∧ k < 102) ∧ v' = some (zI 0) ∧ w' = up w 73 1 1) ∨ ((0 ≤ k ∧ k < 102) ∧ w' = up w 73 1 0 ∧ ((w 73 26 = -1 ∧ v' = some (zI (-1))) ∨ (w 73 26 ≠ -1 ∧ ∃ r, v' = some (zI r) ∧ (fun r => (k = 0 → r = odF (w 88) (mDs w) (w 120) (w 73 26).toNat) ∧ (k ≠ 0 → ∃ fs, isFs (w 120) (k - 1) fs ∧ r = dbF (w 88) (mDs w) fs (w 73 26).toNat)) r))))) zNo 12 [zR 73, zI k, .null, .null, .null] [zI (if 0 ≤ k ∧ k ≤ 101 then 1 else 0)] (ZZ t dr tx) w_1
  refine zA_if_ne (tgt := 21) dX12_odds_12 (by decide) (inR_ite _) (fun c12 => ?_) (fun c12 => ?_)
  · skip
    replace c12 := zite_ne c12
    refine zA_aload_n dX12_odds_21 rfl ?_
    refine zA_getI dX12_odds_22 fX12_69 c73 rfl ?_
    refine zA_valI (w_1 73 26) rfl ?_
    refine zA_iconst dX12_odds_25 ?_
    refine zA_icmp_ne (tgt := 31) dX12_odds_26 (by decide) (by first | assumption | exact hr _ _ | exact inR_mk (by omega) (by omega)) ⟨by decide, by decide⟩ (fun c26 => ?_) (fun c26 => ?_)
    · skip
      obtain ⟨⟨m0, m1⟩, hrw, hp⟩ := hM (by omega)
      refine zA_iload_n dX12_odds_31 rfl ?_
      refine zA_if_ne (tgt := 97) dX12_odds_32 (by decide) (by first | assumption | exact hr _ _ | exact inR_mk (by omega) (by omega)) (fun c32 => ?_) (fun c32 => ?_)
      · skip
        refine zA_iconst dX12_odds_97 ?_
        refine zA_istore_n (lo1 := [zR 73, zI k, zI 0, .null, .null]) dX12_odds_98 (by decide) rfl rfl ?_
        have L99 : ∀ (z99 : Nat) (d : Int) (d0 : 0 ≤ d) (d1 : d ≤ 30) (hd : ∀ x : Int, 0 ≤ x → x < d → w 120 x ≤ k - 1) (zm : (30 - d).toNat < z99), zA l mX12_odds false 3 0 0 (fun v' S' w' => S' = (ZZ t dr tx) ∧ ((¬ (0 ≤ k ∧ k < 102) ∧ v' = some (zI 0) ∧ w' = up w 73 1 1) ∨ ((0 ≤ k ∧ k < 102) ∧ w' = up w 73 1 0 ∧ ((w 73 26 = -1 ∧ v' = some (zI (-1))) ∨ (w 73 26 ≠ -1 ∧ ∃ r, v' = some (zI r) ∧ (fun r => (k = 0 → r = odF (w 88) (mDs w) (w 120) (w 73 26).toNat) ∧ (k ≠ 0 → ∃ fs, isFs (w 120) (k - 1) fs ∧ r = dbF (w 88) (mDs w) fs (w 73 26).toNat)) r))))) zNo 99 [zR 73, zI k, zI d, .null, .null] [] (ZZ t dr tx) w_1 := by
          intro z99
          induction z99 with
          | zero => intro d d0 d1 hd zm; exact absurd zm (Nat.not_lt_zero _)
          | succ z99 ih99 =>
            intro d d0 d1 hd zm
            have L123 : ∀ (fs : Int) (hfs : isFs (w 120) (k - 1) fs), zA l mX12_odds false 3 0 0 (fun v' S' w' => S' = (ZZ t dr tx) ∧ ((¬ (0 ≤ k ∧ k < 102) ∧ v' = some (zI 0) ∧ w' = up w 73 1 1) ∨ ((0 ≤ k ∧ k < 102) ∧ w' = up w 73 1 0 ∧ ((w 73 26 = -1 ∧ v' = some (zI (-1))) ∨ (w 73 26 ≠ -1 ∧ ∃ r, v' = some (zI r) ∧ (fun r => (k = 0 → r = odF (w 88) (mDs w) (w 120) (w 73 26).toNat) ∧ (k ≠ 0 → ∃ fs, isFs (w 120) (k - 1) fs ∧ r = dbF (w 88) (mDs w) fs (w 73 26).toNat)) r))))) zNo 123 [zR 73, zI k, zI fs, .null, .null] [] (ZZ t dr tx) w_1 := by
              intro fs hfs
              have hfs0 := hfs.1
              refine zA_iconst dX12_odds_123 ?_
              refine zA_istore_n (lo1 := [zR 73, zI k, zI fs, zI 0, .null]) dX12_odds_124 (by decide) rfl rfl ?_
              refine zA_iconst dX12_odds_125 ?_
              refine zA_istore (lo1 := [zR 73, zI k, zI fs, zI 0, zI 0]) dX12_odds_126 (by decide) rfl rfl ?_
              have L128 : ∀ (z128 : Nat) (v i : Int) (i0 : 0 ≤ i) (i1 : i ≤ w 73 26) (hv : v = dbF (w 88) (mDs w) fs i.toNat) (zm : (w 73 26 - i).toNat < z128), zA l mX12_odds false 3 0 0 (fun v' S' w' => S' = (ZZ t dr tx) ∧ ((¬ (0 ≤ k ∧ k < 102) ∧ v' = some (zI 0) ∧ w' = up w 73 1 1) ∨ ((0 ≤ k ∧ k < 102) ∧ w' = up w 73 1 0 ∧ ((w 73 26 = -1 ∧ v' = some (zI (-1))) ∨ (w 73 26 ≠ -1 ∧ ∃ r, v' = some (zI r) ∧ (fun r => (k = 0 → r = odF (w 88) (mDs w) (w 120) (w 73 26).toNat) ∧ (k ≠ 0 → ∃ fs, isFs (w 120) (k - 1) fs ∧ r = dbF (w 88) (mDs w) fs (w 73 26).toNat)) r))))) zNo 128 [zR 73, zI k, zI fs, zI v, zI i] [] (ZZ t dr tx) w_1 := by
                intro z128
                induction z128 with
                | zero => intro v i i0 i1 hv zm; exact absurd zm (Nat.not_lt_zero _)
                | succ z128 ih128 =>
                  intro v i i0 i1 hv zm
                  refine zA_iload dX12_odds_128 rfl ?_
                  refine zA_aload_n dX12_odds_130 rfl ?_
                  refine zA_getI dX12_odds_131 fX12_69 c73 rfl ?_
                  refine zA_valI (w_1 73 26) rfl ?_
                  refine zA_icmp_ge (tgt := 161) dX12_odds_134 (by decide) (by first | assumption | exact hr _ _ | exact inR_mk (by omega) (by omega)) (by first | assumption | exact hr _ _ | exact inR_mk (by omega) (by omega)) (fun c134 => ?_) (fun c134 => ?_)
                  · skip
                    refine zA_iload_n dX12_odds_161 rfl ?_
                    refine zA_iret dX12_odds_162 rfl ?_
                    exact ⟨rfl, Or.inr ⟨by omega, hw_1, Or.inr ⟨by omega, _, rfl, fun h => by omega, fun _ => ⟨fs, hfs, by rw [hv, show i = w 73 26 by omega]⟩⟩⟩⟩
                  · skip
                    have hpi := hp i i0 (by omega)
                    have fbg : w_1 88 i = w 88 i := ef 88 i (Or.inl (by decide))
                    have fdi : mDs w_1 i = mDs w i := by rw [fds]
                    refine zA_iload_n dX12_odds_137 rfl ?_
                    refine zA_aload_n dX12_odds_138 rfl ?_
                    refine zA_iload dX12_odds_139 rfl ?_
                    refine zA_cV (st := [zI v]) dX12_odds_141 vX12_lastDay kX12_509 (m_lastDay (w := w_1) (by omega) (by omega) (by rw [f26, ew 87 (by decide)]; exact hrw) (by rw [f26, ew 88 (by decide), fds]; exact hp) (i := i) (by omega) (by omega)) (by decide) c73 rfl rfl (Nat.le_of_ble_eq_true rfl) rfl (zRt_el ?_)
                    show zA l mX12_odds false 3 0 0 (fun v' S' w' => S' = (ZZ t dr tx) ∧ ((¬ (0 ≤ k ∧ k < 102) ∧ v' = some (zI 0) ∧ w' = up w 73 1 1) ∨ ((0 ≤ k ∧ k < 102) ∧ w' = up w 73 1 0 ∧ ((w 73 26 = -1 ∧ v' = some (zI (-1))) ∨ (w 73 26 ≠ -1 ∧ ∃ r, v' = some (zI r) ∧ (fun r => (k = 0 → r = odF (w 88) (mDs w) (w 120) (w 73 26).toNat) ∧ (k ≠ 0 → ∃ fs, isFs (w 120) (k - 1) fs ∧ r = dbF (w 88) (mDs w) fs (w 73 26).toNat)) r))))) zNo 144 [zR 73, zI k, zI fs, zI v, zI i] [zI (w_1 88 i + mDs w_1 i - 1), zI v] (ZZ t dr tx) w_1
                    refine zA_iload_n dX12_odds_144 rfl ?_
                    refine zA_icmp_ge (tgt := 152) dX12_odds_145 (by decide) (by first | assumption | exact hr _ _ | exact inR_mk (by omega) (by omega)) (by first | assumption | exact hr _ _ | exact inR_mk (by omega) (by omega)) (fun c145 => ?_) (fun c145 => ?_)
                    · skip
                      refine zA_iconst dX12_odds_152 ?_
                      refine zA_iadd dX12_odds_153 ?_
                      refine zA_istore_n (lo1 := [zR 73, zI k, zI fs, zI (v + 0), zI i]) dX12_odds_154 (by decide) rfl rfl ?_
                      refine zA_iinc (lo1 := [zR 73, zI k, zI fs, zI (v + 0), zI (i + 1)]) dX12_odds_155 rfl (by decide) rfl rfl ?_
                      refine zA_goto (tgt := 128) dX12_odds_158 (by decide) ?_
                      exact ih128 _ (i + 1) (by omega) (by omega) (by rw [zsucc i0]; simp only [dbF]; rw [zcast i0, if_neg (by omega), hv]) (by omega)
                    · skip
                      refine zA_iconst dX12_odds_148 ?_
                      refine zA_goto (tgt := 153) dX12_odds_149 (by decide) ?_
                      refine zA_iadd dX12_odds_153 ?_
                      refine zA_istore_n (lo1 := [zR 73, zI k, zI fs, zI (v + 1), zI i]) dX12_odds_154 (by decide) rfl rfl ?_
                      refine zA_iinc (lo1 := [zR 73, zI k, zI fs, zI (v + 1), zI (i + 1)]) dX12_odds_155 rfl (by decide) rfl rfl ?_
                      refine zA_goto (tgt := 128) dX12_odds_158 (by decide) ?_
                      exact ih128 _ (i + 1) (by omega) (by omega) (by rw [zsucc i0]; simp only [dbF]; rw [zcast i0, if_pos (by omega), hv]) (by omega)
              exact L128 _ 0 0 (by omega) (by omega) rfl (Nat.lt_succ_self _)
            refine zA_iload_n dX12_odds_99 rfl ?_
            refine zA_bipush dX12_odds_100 rfl ?_
            refine zA_icmp_ge (tgt := 123) dX12_odds_102 (by decide) (by first | assumption | exact hr _ _ | exact inR_mk (by omega) (by omega)) ⟨by decide, by decide⟩ (fun c102 => ?_) (fun c102 => ?_)
            · skip
              exact L123 _ (by first | exact ⟨by omega, fun x p q => hd x p (by omega), Or.inl (by omega)⟩ | exact ⟨by omega, hd, Or.inr (by omega)⟩)
            · skip
              have f120 : w_1 120 d = w 120 d := ef 120 d (Or.inl (by decide))
              refine zA_aload_n dX12_odds_105 rfl ?_
              refine zA_getR (n := 120) dX12_odds_106 fX12_172 c73 rfl ?_
              refine zA_iload_n dX12_odds_109 rfl ?_
              refine zA_iaload dX12_odds_110 c120 (by first | assumption | omega) (by first | assumption | omega) (by decide) ?_
              refine zA_iload_n dX12_odds_111 rfl ?_
              refine zA_iconst dX12_odds_112 ?_
              refine zA_isub dX12_odds_113 ?_
              refine zA_icmp_gt (tgt := 123) dX12_odds_114 (by decide) (by first | assumption | exact hr _ _ | exact inR_mk (by omega) (by omega)) (by first | assumption | exact hr _ _ | exact inR_mk (by omega) (by omega)) (fun c114 => ?_) (fun c114 => ?_)
              · skip
                exact L123 _ (by first | exact ⟨by omega, fun x p q => hd x p (by omega), Or.inl (by omega)⟩ | exact ⟨by omega, hd, Or.inr (by omega)⟩)
              · skip
                refine zA_iinc (lo1 := [zR 73, zI k, zI (d + 1), .null, .null]) dX12_odds_117 rfl (by decide) rfl rfl ?_
                refine zA_goto (tgt := 99) dX12_odds_120 (by decide) ?_
                exact ih99 (d + 1) (by omega) (by omega) (fun x p q => by
                            by_cases e : x = d
                            · rw [e]; omega
                            · exact hd x p (by omega)) (by omega)
        exact L99 _ 0 (by omega) (by omega) (fun x p q => by omega) (Nat.lt_succ_self _)
      · skip
        refine zA_ldcw dX12_odds_35 qX12_508 ?_
        refine zA_istore_n (lo1 := [zR 73, zI k, zI 1000000, .null, .null]) dX12_odds_38 (by decide) rfl rfl ?_
        refine zA_iconst dX12_odds_39 ?_
        refine zA_istore_n (lo1 := [zR 73, zI k, zI 1000000, zI 0, .null]) dX12_odds_40 (by decide) rfl rfl ?_
        have L41 : ∀ (z41 : Nat) (v i : Int) (i0 : 0 ≤ i) (i1 : i ≤ w 73 26) (hv : v = (odF (w 88) (mDs w) (w 120) i.toNat)) (zm : (w 73 26 - i).toNat < z41), zA l mX12_odds false 3 0 0 (fun v' S' w' => S' = (ZZ t dr tx) ∧ ((¬ (0 ≤ k ∧ k < 102) ∧ v' = some (zI 0) ∧ w' = up w 73 1 1) ∨ ((0 ≤ k ∧ k < 102) ∧ w' = up w 73 1 0 ∧ ((w 73 26 = -1 ∧ v' = some (zI (-1))) ∨ (w 73 26 ≠ -1 ∧ ∃ r, v' = some (zI r) ∧ (fun r => (k = 0 → r = odF (w 88) (mDs w) (w 120) (w 73 26).toNat) ∧ (k ≠ 0 → ∃ fs, isFs (w 120) (k - 1) fs ∧ r = dbF (w 88) (mDs w) fs (w 73 26).toNat)) r))))) zNo 41 [zR 73, zI k, zI v, zI i, .null] [] (ZZ t dr tx) w_1 := by
          intro z41
          induction z41 with
          | zero => intro v i i0 i1 hv zm; exact absurd zm (Nat.not_lt_zero _)
          | succ z41 ih41 =>
            intro v i i0 i1 hv zm
            refine zA_iload_n dX12_odds_41 rfl ?_
            refine zA_aload_n dX12_odds_42 rfl ?_
            refine zA_getI dX12_odds_43 fX12_69 c73 rfl ?_
            refine zA_valI (w_1 73 26) rfl ?_
            refine zA_icmp_ge (tgt := 95) dX12_odds_46 (by decide) (by first | assumption | exact hr _ _ | exact inR_mk (by omega) (by omega)) (by first | assumption | exact hr _ _ | exact inR_mk (by omega) (by omega)) (fun c46 => ?_) (fun c46 => ?_)
            · skip
              refine zA_iload_n dX12_odds_95 rfl ?_
              refine zA_iret dX12_odds_96 rfl ?_
              exact ⟨rfl, Or.inr ⟨by omega, hw_1, Or.inr ⟨by omega, _, rfl, fun _ => by rw [hv, show i = w 73 26 by omega], fun h => by omega⟩⟩⟩
            · skip
              have hpi := hp i i0 (by omega)
              have hob := odF_b hs hp i.toNat (by omega)
              have fbg : w_1 88 i = w 88 i := ef 88 i (Or.inl (by decide))
              have fdi : mDs w_1 i = mDs w i := by rw [fds]
              refine zA_aload_n dX12_odds_49 rfl ?_
              refine zA_getR (n := 88) dX12_odds_50 fX12_66 c73 rfl ?_
              refine zA_iload_n dX12_odds_53 rfl ?_
              refine zA_iaload dX12_odds_54 c88 (by first | assumption | omega) (by first | assumption | omega) (by decide) ?_
              refine zA_istore (lo1 := [zR 73, zI k, zI v, zI i, zI (w_1 88 i)]) dX12_odds_55 (by decide) rfl rfl ?_
              have L57 : ∀ (z57 : Nat) (v2 dd kk : Int) (k0 : 0 ≤ kk) (k1 : kk ≤ mDs w i) (hdd : dd = w 88 i + kk) (hv2 : v2 = dayF (w 120) (w 88 i) (odF (w 88) (mDs w) (w 120) i.toNat) kk.toNat) (zm : (mDs w i - kk).toNat < z57), zA l mX12_odds false 3 0 0 (fun v' S' w' => S' = (ZZ t dr tx) ∧ ((¬ (0 ≤ k ∧ k < 102) ∧ v' = some (zI 0) ∧ w' = up w 73 1 1) ∨ ((0 ≤ k ∧ k < 102) ∧ w' = up w 73 1 0 ∧ ((w 73 26 = -1 ∧ v' = some (zI (-1))) ∨ (w 73 26 ≠ -1 ∧ ∃ r, v' = some (zI r) ∧ (fun r => (k = 0 → r = odF (w 88) (mDs w) (w 120) (w 73 26).toNat) ∧ (k ≠ 0 → ∃ fs, isFs (w 120) (k - 1) fs ∧ r = dbF (w 88) (mDs w) fs (w 73 26).toNat)) r))))) zNo 57 [zR 73, zI k, zI v2, zI i, zI dd] [] (ZZ t dr tx) w_1 := by
                intro z57
                induction z57 with
                | zero => intro v2 dd kk k0 k1 hdd hv2 zm; exact absurd zm (Nat.not_lt_zero _)
                | succ z57 ih57 =>
                  intro v2 dd kk k0 k1 hdd hv2 zm
                  refine zA_iload dX12_odds_57 rfl ?_
                  refine zA_aload_n dX12_odds_59 rfl ?_
                  refine zA_iload_n dX12_odds_60 rfl ?_
                  refine zA_cV (st := [zI dd]) dX12_odds_61 vX12_lastDay kX12_509 (m_lastDay (w := w_1) (by omega) (by omega) (by rw [f26, ew 87 (by decide)]; exact hrw) (by rw [f26, ew 88 (by decide), fds]; exact hp) (i := i) (by omega) (by omega)) (by decide) c73 rfl rfl (Nat.le_of_ble_eq_true rfl) rfl (zRt_el ?_)
                  show zA l mX12_odds false 3 0 0 (fun v' S' w' => S' = (ZZ t dr tx) ∧ ((¬ (0 ≤ k ∧ k < 102) ∧ v' = some (zI 0) ∧ w' = up w 73 1 1) ∨ ((0 ≤ k ∧ k < 102) ∧ w' = up w 73 1 0 ∧ ((w 73 26 = -1 ∧ v' = some (zI (-1))) ∨ (w 73 26 ≠ -1 ∧ ∃ r, v' = some (zI r) ∧ (fun r => (k = 0 → r = odF (w 88) (mDs w) (w 120) (w 73 26).toNat) ∧ (k ≠ 0 → ∃ fs, isFs (w 120) (k - 1) fs ∧ r = dbF (w 88) (mDs w) fs (w 73 26).toNat)) r))))) zNo 64 [zR 73, zI k, zI v2, zI i, zI dd] [zI (w_1 88 i + mDs w_1 i - 1), zI dd] (ZZ t dr tx) w_1
                  refine zA_icmp_gt (tgt := 89) dX12_odds_64 (by decide) (by first | assumption | exact hr _ _ | exact inR_mk (by omega) (by omega)) (by first | assumption | exact hr _ _ | exact inR_mk (by omega) (by omega)) (fun c64 => ?_) (fun c64 => ?_)
                  · skip
                    refine zA_iinc (lo1 := [zR 73, zI k, zI v2, zI (i + 1), zI dd]) dX12_odds_89 rfl (by decide) rfl rfl ?_
                    refine zA_goto (tgt := 41) dX12_odds_92 (by decide) ?_
                    refine zA_drop 4 (lo1 := [zR 73, zI k, zI v2, zI (i + 1), .null]) rfl ?_
                    exact ih41 _ (i + 1) (by omega) (by omega) (by rw [zsucc i0]; simp only [odF]; rw [zcast i0, hv2, show kk = mDs w i by omega]) (by omega)
                  · skip
                    have hdb := dayF_b (v := (odF (w 88) (mDs w) (w 120) i.toNat)) hs hpi.1 hob.1 hob.2 kk.toNat (by omega)
                    rw [← hv2] at hdb
                    have hsd := hs dd (by omega) (by omega)
                    have hvv := odv_b hdb.1 hdb.2 hsd.1 hsd.2
                    have f120 : w_1 120 dd = w 120 dd := ef 120 dd (Or.inl (by decide))
                    refine zA_iload_n dX12_odds_67 rfl ?_
                    refine zA_bipush dX12_odds_68 rfl ?_
                    refine zA_aload_n dX12_odds_70 rfl ?_
                    refine zA_getR (n := 120) dX12_odds_71 fX12_172 c73 rfl ?_
                    refine zA_iload dX12_odds_74 rfl ?_
                    refine zA_iaload dX12_odds_76 c120 (by first | assumption | omega) (by first | assumption | omega) (by decide) ?_
                    refine zA_isub dX12_odds_77 ?_
                    refine zA_imul dX12_odds_78 ?_
                    refine zA_valI (v2 * (100 - w 120 dd)) (by rw [f120]) ?_
                    refine zA_bipush dX12_odds_79 rfl ?_
                    refine zA_idiv dX12_odds_81 (by first | assumption | omega) (by first | assumption | omega) (by first | assumption | omega) (by first | assumption | omega) ?_
                    refine zA_istore_n (lo1 := [zR 73, zI k, zI ((v2 * (100 - w 120 dd)) / 100), zI i, zI dd]) dX12_odds_82 (by decide) rfl rfl ?_
                    refine zA_iinc (lo1 := [zR 73, zI k, zI ((v2 * (100 - w 120 dd)) / 100), zI i, zI (dd + 1)]) dX12_odds_83 rfl (by decide) rfl rfl ?_
                    refine zA_goto (tgt := 57) dX12_odds_86 (by decide) ?_
                    exact ih57 _ _ (kk + 1) (by omega) (by omega) (by omega) (by rw [zsucc k0]; simp only [dayF]; rw [zcast k0, ← hv2, ← hdd]) (by omega)
              exact L57 _ v (w_1 88 i) 0 (by omega) (by omega) (by omega) (by rw [hv]; rfl) (Nat.lt_succ_self _)
        exact L41 _ 1000000 0 (by omega) (by omega) rfl (Nat.lt_succ_self _)
    · skip
      refine zA_iconst dX12_odds_29 ?_
      refine zA_iret dX12_odds_30 rfl ?_
      exact ⟨rfl, Or.inr ⟨by omega, hw_1, Or.inl ⟨by omega, rfl⟩⟩⟩
  · skip
    replace c12 := zite_eq c12
    refine zA_aload_n dX12_odds_15 rfl ?_
    refine zA_iconst dX12_odds_16 ?_
    refine zA_cV (st := []) dX12_odds_17 vX12_fail kX12_292 (m_fail (w := w_1) (k := 1) ⟨by decide, by decide⟩) (by decide) c73 rfl rfl (Nat.le_of_ble_eq_true rfl) rfl (zRt_el ?_)
    show zA l mX12_odds false 3 0 0 (fun v' S' w' => S' = (ZZ t dr tx) ∧ ((¬ (0 ≤ k ∧ k < 102) ∧ v' = some (zI 0) ∧ w' = up w 73 1 1) ∨ ((0 ≤ k ∧ k < 102) ∧ w' = up w 73 1 0 ∧ ((w 73 26 = -1 ∧ v' = some (zI (-1))) ∨ (w 73 26 ≠ -1 ∧ ∃ r, v' = some (zI r) ∧ (fun r => (k = 0 → r = odF (w 88) (mDs w) (w 120) (w 73 26).toNat) ∧ (k ≠ 0 → ∃ fs, isFs (w 120) (k - 1) fs ∧ r = dbF (w 88) (mDs w) fs (w 73 26).toNat)) r))))) zNo 20 [zR 73, zI k, .null, .null, .null] [zI 0] (ZZ t dr tx) (up w_1 73 1 1)
    refine zA_iret dX12_odds_20 rfl ?_
    exact ⟨rfl, Or.inl ⟨by omega, rfl, by rw [hw_1, up_up]⟩⟩

