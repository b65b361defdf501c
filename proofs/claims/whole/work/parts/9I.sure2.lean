/-! two contracts that say more: sure asks for a trial, even for rows only where a plan is made -/
set_option maxRecDepth 100000 in
set_option maxHeartbeats 4000000 in
theorem s_sure2 {l : Launch} {t dr tx : Nat} {w : zW} {k : Int} (hk : inR k) {fit : Int → Bool} (hT : w 34 8 ≠ 0 → (2 ≤ w 34 4 ∧ w 34 4 ≤ 14) ∧ lOk fit (w 35) (w 34 9) ((2 ^ (w 34 4).toNat : Nat) : Int)) : zSp l mX11_sure false 3 2 12 [zR 0, zI k] (ZZ t dr tx) w (zIr ((0 ≤ k ∧ k < 3) ∧ w 34 8 ≠ 0) (fun r => (k = 2 → r = w 34 9) ∧ (k ≠ 2 → isSure fit ((2 ^ (w 34 4).toNat : Nat) : Int) (w 34 4) k r)) (ZZ t dr tx) w) (zXp (¬ (0 ≤ k ∧ k < 3)) ((0 ≤ k ∧ k < 3) ∧ w 34 8 = 0) (ZZ t dr tx) w) := by
  refine zA_intro ⟨plainFor_of_name (by decide +kernel), Or.inl (by decide +kernel)⟩ rfl (Nat.le_of_ble_eq_true rfl) ?_
  refine zA_range (fun hr => ?_)
  show zA l mX11_sure false 3 2 12 (zIr ((0 ≤ k ∧ k < 3) ∧ w 34 8 ≠ 0) (fun r => (k = 2 → r = w 34 9) ∧ (k ≠ 2 → isSure fit ((2 ^ (w 34 4).toNat : Nat) : Int) (w 34 4) k r)) (ZZ t dr tx) w) (zXp (¬ (0 ≤ k ∧ k < 3)) ((0 ≤ k ∧ k < 3) ∧ w 34 8 = 0) (ZZ t dr tx) w) 0 [zR 0, zI k] [] (ZZ t dr tx) w
  refine zA_iload_n dX11_sure_0 rfl ?_
  refine zA_iconst dX11_sure_1 ?_
  refine zA_callS (bc2 := 1) (bs2 := 6) (st := []) dX11_sure_2 sX11_askWhat kX11_165 (s_askWhat (w := w) (c := k) (n := 3) (by first | assumption | exact hr _ _ | exact inR_mk (by omega) (by omega)) ⟨by decide, by decide⟩) (by decide) rfl rfl (Nat.le_of_ble_eq_true rfl) ⟨rfl, rfl⟩ (zRa_el (fun h_2 => ?_)) (zXp_m rfl (fun h => by first | exact h.elim | omega) (fun h => by first | exact h.elim | omega))
  show zA l mX11_sure false 3 1 6 (zIr ((0 ≤ k ∧ k < 3) ∧ w 34 8 ≠ 0) (fun r => (k = 2 → r = w 34 9) ∧ (k ≠ 2 → isSure fit ((2 ^ (w 34 4).toNat : Nat) : Int) (w 34 4) k r)) (ZZ t dr tx) w) (zXp (¬ (0 ≤ k ∧ k < 3)) ((0 ≤ k ∧ k < 3) ∧ w 34 8 = 0) (ZZ t dr tx) w) 5 [zR 0, zI k] [] (ZZ t dr tx) w
  refine zA_aload_n dX11_sure_5 rfl ?_
  refine zA_getR (n := 34) dX11_sure_6 fX11_57 c0 rfl ?_
  refine zA_getI dX11_sure_9 fX11_264 c34 rfl ?_
  refine zA_valI (w 34 8) rfl ?_
  refine zA_if_ne (tgt := 26) dX11_sure_12 (by decide) (by first | assumption | exact hr _ _ | exact inR_mk (by omega) (by omega)) (fun c12 => ?_) (fun c12 => ?_)
  · skip
    obtain ⟨⟨p0, p1⟩, hl⟩ := hT c12
    refine zA_iload_n dX11_sure_26 rfl ?_
    refine zA_iconst dX11_sure_27 ?_
    refine zA_icmp_ne (tgt := 39) dX11_sure_28 (by decide) (by first | assumption | exact hr _ _ | exact inR_mk (by omega) (by omega)) ⟨by decide, by decide⟩ (fun c28 => ?_) (fun c28 => ?_)
    · skip
      refine zA_aload_n dX11_sure_39 rfl ?_
      refine zA_getR (n := 34) dX11_sure_40 fX11_57 c0 rfl ?_
      refine zA_iload_n dX11_sure_43 rfl ?_
      refine zA_iconst dX11_sure_44 ?_
      refine zA_icmp_ne (tgt := 52) dX11_sure_45 (by decide) (by first | assumption | exact hr _ _ | exact inR_mk (by omega) (by omega)) ⟨by decide, by decide⟩ (fun c45 => ?_) (fun c45 => ?_)
      · skip
        refine zA_iconst dX11_sure_52 ?_
        refine zA_cV (st := []) dX11_sure_53 vX9_inAll kX11_282 (s_inAll (w := w) (z := 0) (by decide) p0 p1 hl) (by decide) c34 rfl rfl (Nat.le_of_ble_eq_true rfl) rfl (zRp1_el (fun sr hsr => ?_))
        refine zA_iret dX11_sure_56 rfl ?_
        exact ⟨by omega, ⟨_, rfl, fun h => by omega, fun _ => by first | (rw [show k = 1 by omega]; exact hsr) | (rw [show k = 0 by omega]; exact hsr)⟩, rfl, rfl⟩
      · skip
        refine zA_iconst dX11_sure_48 ?_
        refine zA_goto (tgt := 53) dX11_sure_49 (by decide) ?_
        refine zA_cV (st := []) dX11_sure_53 vX9_inAll kX11_282 (s_inAll (w := w) (z := 1) (by decide) p0 p1 hl) (by decide) c34 rfl rfl (Nat.le_of_ble_eq_true rfl) rfl (zRp1_el (fun sr hsr => ?_))
        refine zA_iret dX11_sure_56 rfl ?_
        exact ⟨by omega, ⟨_, rfl, fun h => by omega, fun _ => by first | (rw [show k = 1 by omega]; exact hsr) | (rw [show k = 0 by omega]; exact hsr)⟩, rfl, rfl⟩
    · skip
      refine zA_aload_n dX11_sure_31 rfl ?_
      refine zA_getR (n := 34) dX11_sure_32 fX11_57 c0 rfl ?_
      refine zA_getI dX11_sure_35 fX11_277 c34 rfl ?_
      refine zA_valI (w 34 9) rfl ?_
      refine zA_iret dX11_sure_38 rfl ?_
      exact ⟨by omega, ⟨_, rfl, fun _ => rfl, fun h => by omega⟩, rfl, rfl⟩
  · skip
    refine zA_throw (sa := 1111) (zIAE_w dX11_sure_15 dX11_sure_18 ⟨dX11_sure_19, dX11_sure_22, dX11_sure_25⟩) (List.mem_of_getElem? (i := 11) rfl) rfl rfl (Nat.le_of_ble_eq_true rfl) (by decide) ?_
    exact ⟨Or.inr ⟨rfl, by omega⟩, rfl, rfl⟩
set_option maxRecDepth 100000 in
set_option maxHeartbeats 4000000 in
theorem s_even2 {l : Launch} {t dr tx : Nat} {w : zW} {g : Int} (ht : t = 4 ∨ t = 10) (hY : okYard w t) (hgr : inR g) (hb : w 16 15 = 0 ∨ w 16 15 = 1) (hn0 : 0 ≤ w 16 12) (hn : w 16 12 ≤ 8) (hrow : w 16 15 = 1 → ∀ j : Int, 0 ≤ j → j < w 16 12 → 0 ≤ w 25 j ∧ w 25 j < w t 7) (hz : ∀ z : Int, 0 ≤ z → z < 4 → w 23 z = 0)  : zSp l mX11_even false 14 0 0 [zR 0, zI g] (ZZ t dr tx) w (fun v' S' w' => S' = (ZZ t dr tx) ∧ ((¬ (w 16 15 = 1 ∧ 2 ≤ g ∧ g ≤ 4) ∧ v' = some (zI (-1)) ∧ w' = w) ∨ ((w 16 15 = 1 ∧ 2 ≤ g ∧ g ≤ 4) ∧ (∀ c x, c ≠ 22 → c ≠ 24 → c ≠ 27 → (c ≠ 16 ∨ (x ≠ 8 ∧ x ≠ 16)) → w' c x = w c x) ∧ w' 16 16 = 1 ∧ ∃ s, fmn (fun s => vl g (w 16 12).toNat s ∧ cvn 0 s) (fun s => mxL (lfn (yWt w t) 0 s (fun _ => 0)) g.toNat) s ∧ v' = some (zI ((fun s => mxL (lfn (yWt w t) 0 s (fun _ => 0)) g.toNat) s)) ∧ alS (w' 27) 0 s))) zNo := by
  refine zA_intro ⟨plainFor_of_name (by decide +kernel), Or.inl (by decide +kernel)⟩ rfl (Nat.le_of_ble_eq_true rfl) ?_
  refine zA_range (fun hr => ?_)
  show zA l mX11_even false 14 0 0 (fun v' S' w' => S' = (ZZ t dr tx) ∧ ((¬ (w 16 15 = 1 ∧ 2 ≤ g ∧ g ≤ 4) ∧ v' = some (zI (-1)) ∧ w' = w) ∨ ((w 16 15 = 1 ∧ 2 ≤ g ∧ g ≤ 4) ∧ (∀ c x, c ≠ 22 → c ≠ 24 → c ≠ 27 → (c ≠ 16 ∨ (x ≠ 8 ∧ x ≠ 16)) → w' c x = w c x) ∧ w' 16 16 = 1 ∧ ∃ s, fmn (fun s => vl g (w 16 12).toNat s ∧ cvn 0 s) (fun s => mxL (lfn (yWt w t) 0 s (fun _ => 0)) g.toNat) s ∧ v' = some (zI ((fun s => mxL (lfn (yWt w t) 0 s (fun _ => 0)) g.toNat) s)) ∧ alS (w' 27) 0 s))) zNo 0 [zR 0, zI g] [] (ZZ t dr tx) w
  refine zA_aload_n dX11_even_0 rfl ?_
  refine zA_getR (n := 16) dX11_even_1 fX11_40 c0 rfl ?_
  refine zA_getI dX11_even_4 fX11_196 c16 rfl ?_
  refine zA_valI (w 16 15) rfl ?_
  refine zA_if_eq (tgt := 19) dX11_even_7 (by decide) (by first | assumption | exact hr _ _ | exact inR_mk (by omega) (by omega)) (fun c7 => ?_) (fun c7 => ?_)
  · skip
    refine zA_iconst dX11_even_19 ?_
    refine zA_iret dX11_even_20 rfl ?_
    exact ⟨rfl, Or.inl ⟨by omega, rfl, rfl⟩⟩
  · skip
    refine zA_iconst dX11_even_10 ?_
    refine zA_iload_n dX11_even_11 rfl ?_
    refine zA_iconst dX11_even_12 ?_
    refine zA_cS (st := []) dX11_even_13 sX11_between kX11_213 (s_between (w := w) (a := 2) (b := g) (e := 4) ⟨by decide, by decide⟩ (by first | assumption | exact hr _ _ | exact inR_mk (by omega) (by omega)) ⟨by decide, by decide⟩) (by decide) rfl rfl (Nat.le_of_ble_eq_true rfl) (zRt_el ?_)
    show zA l mX11_even false 14 0 0 (fun v' S' w' => S' = (ZZ t dr tx) ∧ ((¬ (w 16 15 = 1 ∧ 2 ≤ g ∧ g ≤ 4) ∧ v' = some (zI (-1)) ∧ w' = w) ∨ ((w 16 15 = 1 ∧ 2 ≤ g ∧ g ≤ 4) ∧ (∀ c x, c ≠ 22 → c ≠ 24 → c ≠ 27 → (c ≠ 16 ∨ (x ≠ 8 ∧ x ≠ 16)) → w' c x = w c x) ∧ w' 16 16 = 1 ∧ ∃ s, fmn (fun s => vl g (w 16 12).toNat s ∧ cvn 0 s) (fun s => mxL (lfn (yWt w t) 0 s (fun _ => 0)) g.toNat) s ∧ v' = some (zI ((fun s => mxL (lfn (yWt w t) 0 s (fun _ => 0)) g.toNat) s)) ∧ alS (w' 27) 0 s))) zNo 16 [zR 0, zI g] [zI (if 2 ≤ g ∧ g ≤ 4 then 1 else 0)] (ZZ t dr tx) w
    refine zA_if_ne (tgt := 21) dX11_even_16 (by decide) (inR_ite _) (fun k16 => ?_) (fun k16 => ?_)
    · skip
      replace k16 := zite_ne k16
      refine zA_aload_n dX11_even_21 rfl ?_
      refine zA_getR (n := 16) dX11_even_22 fX11_40 c0 rfl ?_
      refine zA_aload_n dX11_even_25 rfl ?_
      refine zA_getR (n := t) dX11_even_26 fX11_30 c0 rfl ?_
      refine zA_iload_n dX11_even_29 rfl ?_
      refine zA_cV (st := []) dX11_even_30 vX6_layEven kX11_217 (s_layEven (w := w) ht hY (g := g) (by omega) (by omega) hn0 hn (hrow (by omega)) hz) (by decide) c16 rfl rfl (Nat.le_of_ble_eq_true rfl) rfl (fun q_1_v q_1_S q_1_w q_1 => ?_)
      obtain ⟨rfl, hq1, hq2, s0, hq3, rfl, hq4⟩ := q_1
      refine zA_range (fun hr => ?_)
      show zA l mX11_even false 14 0 0 (fun v' S' w' => S' = (ZZ t dr tx) ∧ ((¬ (w 16 15 = 1 ∧ 2 ≤ g ∧ g ≤ 4) ∧ v' = some (zI (-1)) ∧ w' = w) ∨ ((w 16 15 = 1 ∧ 2 ≤ g ∧ g ≤ 4) ∧ (∀ c x, c ≠ 22 → c ≠ 24 → c ≠ 27 → (c ≠ 16 ∨ (x ≠ 8 ∧ x ≠ 16)) → w' c x = w c x) ∧ w' 16 16 = 1 ∧ ∃ s, fmn (fun s => vl g (w 16 12).toNat s ∧ cvn 0 s) (fun s => mxL (lfn (yWt w t) 0 s (fun _ => 0)) g.toNat) s ∧ v' = some (zI ((fun s => mxL (lfn (yWt w t) 0 s (fun _ => 0)) g.toNat) s)) ∧ alS (w' 27) 0 s))) zNo 33 [zR 0, zI g] [zI ((fun s => mxL (lfn (yWt w t) 0 s (fun _ => 0)) g.toNat) s0)] (ZZ t dr tx) q_1_w
      refine zA_iret dX11_even_33 rfl ?_
      exact ⟨rfl, Or.inr ⟨by omega, hq1, hq2, s0, hq3, rfl, hq4⟩⟩
    · skip
      replace k16 := zite_eq k16
      refine zA_iconst dX11_even_19 ?_
      refine zA_iret dX11_even_20 rfl ?_
      exact ⟨rfl, Or.inl ⟨by omega, rfl, rfl⟩⟩
