/-! the text of the reference: words, numbers -/
section ZLW
variable {l : Launch} {M : zM} {gr : Bool} {d bc bs : Nat} {Q : Option Value → zS → zW → Prop} {X : String → zS → zW → Prop} {pc : Nat} {lo st : List Value} {S : zS} {w : zW}
theorem zA_ldcSw {k a : Nat} {tx : String} (hd : decode M.2.1 pc = .ok (.ldc_w k, 3)) (hw : (M.1.cls, k, tx, a) ∈ zrefs) (kk : zA l M gr d bc bs Q X (pc + 3) lo (zR a :: st) S w) : zA l M gr d bc bs Q X pc lo st S w := by
  intro p e R s m args below meth c Z G ad A hC H locs ls cells slots hR hS hL hc hs
  have hZ := hC.2.2.2.2.2.2.2.2.1.2.2.2.2.1 _ hw
  intro T hT X
  obtain ⟨t, a1, b1⟩ := kk p e R s m args below meth c Z G ad A hC H locs ls cells slots hR hS hL hc hs T hT X
  exact ⟨t, X.ldcStringW hC.1 (text := tx) (a := ad a) hC.2.2.2.1 hZ.1 hZ.2 (g := F0 m pc ls (st.map (zcv ad))) rfl (by rw [hC.2.1]; exact hd) t a1, b1⟩
end ZLW
def wrongw (w : zW) (k : Int) : zW := if w 73 19 ≠ 0 then w else up (up w 73 19 k) 73 20 (w 73 17)
theorem wrongw_o {w : zW} {k : Int} : onM w (wrongw w k) := fun c x a => by
  unfold wrongw; split
  · rfl
  · rw [up_n (by omega), up_n (by omega)]
theorem rM_f {b : Int → Int} {n : Int} {w : zW} {s : zP} {k : Int} (h : rM b n w s) (hk : k ≠ 0) : rM b n (wrongw w k) (pFl b n k s) := by
  cases s with
  | inr e =>
    have : wrongw w k = w := by unfold wrongw; rw [if_pos (by rw [h.1]; exact h.2.1)]
    rw [this]; exact h
  | inl p =>
    have e : wrongw w k = up (up w 73 19 k) 73 20 (w 73 17) := by unfold wrongw; rw [if_neg (by rw [h.2.1]; exact fun q => q rfl)]
    rw [e]
    refine ⟨?_, hk, ?_⟩
    · rw [up_idx _ _ _ _ (by decide), up_same]
    · rw [up_same]; exact h.2.2.1.1
theorem rM_inl {b : Int → Int} {n : Int} {w : zW} {s : zP} (h : rM b n w s) (h0 : w 73 19 = 0) : ∃ p, s = .inl p := by
  cases s with
  | inr e => exact absurd (h.1.symm.trans h0) h.2.1
  | inl p => exact ⟨p, rfl⟩
theorem rM_inr {b : Int → Int} {n : Int} {w : zW} {s : zP} (h : rM b n w s) (h0 : w 73 19 ≠ 0) : ∃ e, s = .inr e := by
  cases s with
  | inr e => exact ⟨e, rfl⟩
  | inl p => exact absurd h.2.1 h0
theorem rM_ok {b : Int → Int} {n : Int} {w : zW} {s : zP} (h : rM b n w s) : w 73 19 = 0 ↔ okP s := by
  cases s with
  | inr e => exact ⟨fun q => (h.2.1 (h.1.symm.trans q)).elim, fun q => q.elim⟩
  | inl p => exact ⟨fun _ => trivial, fun _ => h.2.1⟩
theorem rM_b {b : Int → Int} {n p : Int} {w : zW} (h : rM b n w (.inl p)) : (0 ≤ w 73 17 ∧ w 73 17 ≤ w 73 18 ∧ w 73 18 ≤ n) ∧ w 73 13 = w 73 18 := by
  obtain ⟨⟨p0, p1⟩, -, ⟨f1, f2, f3⟩, -⟩ := h
  have h1 := tkS_b (b := b) p1
  have h2 := tkE_b (b := b) p1
  exact ⟨by omega, by omega⟩
theorem rM_W {b : Int → Int} {n p : Int} {w : zW} {k : Nat} (hp : pM b n w) (h : rM b n w (.inl p)) : (w 73 15 = 1 ∧ sLen k = w 73 18 - w 73 17 ∧ ∀ i : Int, 0 ≤ i → i < sLen k → sCh k i = w 84 (w 73 17 + i)) ↔ isW b n k p := by
  obtain ⟨⟨b0, b1, b2⟩, -⟩ := rM_b h
  obtain ⟨-, -, ⟨f1, f2, f3⟩, f4, -⟩ := h
  have hb := hp.2.2
  unfold isW; rw [← f1, ← f2, ← f4]
  constructor
  · rintro ⟨h1, h2, h3⟩
    exact ⟨h1, h2.symm, fun i i0 i1 => by rw [h3 i i0 i1]; exact ((hb _ (by omega) (by omega)).1).symm⟩
  · rintro ⟨h1, h2, h3⟩
    exact ⟨h1, h2.symm, fun i i0 i1 => by rw [← h3 i i0 i1]; exact ((hb _ (by omega) (by omega)).1).symm⟩
theorem wh_k {b : Int → Int} {n p : Int} {k : Nat} (hk : k < 5) (h : isW b n k p) (hn : ∀ j : Nat, j < k → ¬ isW b n j p) : wh b n p = (k : Int) := by
  have e : k = 0 ∨ k = 1 ∨ k = 2 ∨ k = 3 ∨ k = 4 := by omega
  rcases e with rfl | rfl | rfl | rfl | rfl
  · exact wh_0 h
  · exact wh_1 (hn 0 (by decide)) h
  · exact wh_2 (hn 0 (by decide)) (hn 1 (by decide)) h
  · exact wh_3 (hn 0 (by decide)) (hn 1 (by decide)) (hn 2 (by decide)) h
  · exact wh_4 (hn 0 (by decide)) (hn 1 (by decide)) (hn 2 (by decide)) (hn 3 (by decide)) h
set_option maxRecDepth 100000 in
set_option maxHeartbeats 4000000 in
theorem m_is {l : Launch} {t dr tx : Nat} {w : zW} {b : Int → Int} {n : Int} {k : Nat} {s : zP} (hk : k < 11) (hp : pM b n w) (hR : rM b n w s) : zSp l mX12_is false 5 0 0 [zR 73, zR (1000 + k)] (ZZ t dr tx) w (zRp1 (isB (∃ p, s = .inl p ∧ isW b n k p)) (ZZ t dr tx) w) zNo := by
  refine zA_intro ⟨plainFor_of_name (by decide +kernel), Or.inl (by decide +kernel)⟩ rfl (Nat.le_of_ble_eq_true rfl) ?_
  obtain ⟨⟨n0, n6⟩, hn, hb⟩ := id hp
  have hlb := sLen_b hk
  have hfin : ((w 73 19 = 0 ∧ w 73 15 = 1 ∧ sLen k = w 73 18 - w 73 17) ∧ ∀ j : Int, 0 ≤ j → j < sLen k → sCh k j = w 84 (w 73 17 + j)) ↔ ∃ p, s = .inl p ∧ isW b n k p := by
    constructor
    · rintro ⟨⟨h1, h2, h3⟩, h4⟩
      obtain ⟨p, hs⟩ := rM_inl hR h1
      exact ⟨p, hs, (rM_W hp (by rw [← hs]; exact hR)).mp ⟨h2, h3, h4⟩⟩
    · rintro ⟨p, hs, h⟩
      have hR2 : rM b n w (.inl p) := by rw [← hs]; exact hR
      obtain ⟨h1, h2, h3⟩ := (rM_W hp hR2).mpr h
      exact ⟨⟨hR2.2.1, h1, h2⟩, h3⟩
  refine zA_range (fun hr => ?_)
  show zA l mX12_is false 5 0 0 (zRp1 (isB (∃ p, s = .inl p ∧ isW b n k p)) (ZZ t dr tx) w) zNo 0 [zR 73, zR (1000 + k), .null, .null] [] (ZZ t dr tx) w
  have L36 : ∀ (x : Int) (hx : (x = 1 ∧ (w 73 19 = 0 ∧ w 73 15 = 1 ∧ sLen k = w 73 18 - w 73 17)) ∨ (x = 0 ∧ ¬ (w 73 19 = 0 ∧ w 73 15 = 1 ∧ sLen k = w 73 18 - w 73 17))), zA l mX12_is false 5 0 0 (zRp1 (isB (∃ p, s = .inl p ∧ isW b n k p)) (ZZ t dr tx) w) zNo 36 [zR 73, zR (1000 + k), .null, .null] [zI x] (ZZ t dr tx) w := by
    intro x hx
    refine zA_istore_n (lo1 := [zR 73, zR (1000 + k), zI x, .null]) dX12_is_36 (by decide) rfl rfl ?_
    refine zA_iconst dX12_is_37 ?_
    refine zA_istore_n (lo1 := [zR 73, zR (1000 + k), zI x, zI 0]) dX12_is_38 (by decide) rfl rfl ?_
    have L39 : ∀ (z39 : Nat) (sm i : Int) (i0 : 0 ≤ i) (hsm : (sm = 1 ∧ i ≤ sLen k ∧ (w 73 19 = 0 ∧ w 73 15 = 1 ∧ sLen k = w 73 18 - w 73 17) ∧ ∀ j : Int, 0 ≤ j → j < i → sCh k j = w 84 (w 73 17 + j)) ∨ (sm = 0 ∧ ¬ ((w 73 19 = 0 ∧ w 73 15 = 1 ∧ sLen k = w 73 18 - w 73 17) ∧ ∀ j : Int, 0 ≤ j → j < sLen k → sCh k j = w 84 (w 73 17 + j)))) (zm : (1000 - i + 1000 * sm).toNat < z39), zA l mX12_is false 5 0 0 (zRp1 (isB (∃ p, s = .inl p ∧ isW b n k p)) (ZZ t dr tx) w) zNo 39 [zR 73, zR (1000 + k), zI sm, zI i] [] (ZZ t dr tx) w := by
      intro z39
      induction z39 with
      | zero => intro sm i i0 hsm zm; exact absurd zm (Nat.not_lt_zero _)
      | succ z39 ih39 =>
        intro sm i i0 hsm zm
        refine zA_iload_n dX12_is_39 rfl ?_
        refine zA_if_eq (tgt := 82) dX12_is_40 (by decide) (by first | assumption | exact hr _ _ | exact inR_mk (by omega) (by omega)) (fun c40 => ?_) (fun c40 => ?_)
        · skip
          have hz01 : sm = 0 ∨ sm = 1 := by omega
          refine zA_iload_n dX12_is_82 rfl ?_
          refine zA_zret dX12_is_83 rfl hz01 ?_
          exact ⟨⟨sm, rfl, Or.inr ⟨c40, fun h => by
            rcases hsm with h1 | h1
            · omega
            · exact h1.2 (hfin.mpr h)⟩⟩, rfl, rfl⟩
        · skip
          have hs1 := hsm.resolve_right (fun h => c40 h.1)
          obtain ⟨hs1e, hi1, hc0, hsj⟩ := hs1
          obtain ⟨p, hsp⟩ := rM_inl hR hc0.1
          have hbp := rM_b (show rM b n w (.inl p) by rw [← hsp]; exact hR)
          refine zA_iload_n dX12_is_43 rfl ?_
          refine zA_aload_n dX12_is_44 rfl ?_
          refine zA_cStr (st := [zI i]) dX12_is_45 vJ0_length_8abf5 kX12_234 (s_strlen hk) (by decide) rfl rfl (Nat.le_of_ble_eq_true rfl) hk (zRt_el ?_)
          refine zA_icmp_ge (tgt := 82) dX12_is_48 (by decide) (by first | assumption | exact hr _ _ | exact inR_mk (by omega) (by omega)) (by first | assumption | exact hr _ _ | exact inR_mk (by omega) (by omega)) (fun c48 => ?_) (fun c48 => ?_)
          · skip
            have hz01 : sm = 0 ∨ sm = 1 := by omega
            refine zA_iload_n dX12_is_82 rfl ?_
            refine zA_zret dX12_is_83 rfl hz01 ?_
            exact ⟨⟨sm, rfl, Or.inl ⟨hs1e, hfin.mp ⟨hc0, fun j a c => hsj j a (by omega)⟩⟩⟩, rfl, rfl⟩
          · skip
            have hchb := sCh_b hk i0 (show i < sLen k by omega)
            refine zA_aload_n dX12_is_51 rfl ?_
            refine zA_iload_n dX12_is_52 rfl ?_
            refine zA_cStr (As := [zI i]) (st := []) dX12_is_53 vJ0_charAt_5068e kX12_238 (s_charAt hk (by omega) (by omega)) (by decide) rfl rfl (Nat.le_of_ble_eq_true rfl) hk (zRt_el ?_)
            refine zA_aload_n dX12_is_56 rfl ?_
            refine zA_getR (n := 84) dX12_is_57 fX12_50 c73 rfl ?_
            refine zA_aload_n dX12_is_60 rfl ?_
            refine zA_getI dX12_is_61 fX12_202 c73 rfl ?_
            refine zA_valI (w 73 17) rfl ?_
            refine zA_iload_n dX12_is_64 rfl ?_
            refine zA_iadd dX12_is_65 ?_
            refine zA_iaload dX12_is_66 c84 (by first | assumption | omega) (by first | assumption | omega) (by decide) ?_
            refine zA_icmp_ne (tgt := 74) dX12_is_67 (by decide) (by first | assumption | exact hr _ _ | exact inR_mk (by omega) (by omega)) (by first | assumption | exact hr _ _ | exact inR_mk (by omega) (by omega)) (fun c67 => ?_) (fun c67 => ?_)
            · skip
              refine zA_iconst dX12_is_74 ?_
              refine zA_istore_n (lo1 := [zR 73, zR (1000 + k), zI 0, zI i]) dX12_is_75 (by decide) rfl rfl ?_
              refine zA_iinc (lo1 := [zR 73, zR (1000 + k), zI 0, zI (i + 1)]) dX12_is_76 rfl (by decide) rfl rfl ?_
              refine zA_goto (tgt := 39) dX12_is_79 (by decide) ?_
              exact ih39 0 (i + 1) (by omega) (Or.inr ⟨rfl, fun h => c67 (h.2 i i0 (by omega))⟩) (by omega)
            · skip
              refine zA_iconst dX12_is_70 ?_
              refine zA_goto (tgt := 75) dX12_is_71 (by decide) ?_
              refine zA_istore_n (lo1 := [zR 73, zR (1000 + k), zI 1, zI i]) dX12_is_75 (by decide) rfl rfl ?_
              refine zA_iinc (lo1 := [zR 73, zR (1000 + k), zI 1, zI (i + 1)]) dX12_is_76 rfl (by decide) rfl rfl ?_
              refine zA_goto (tgt := 39) dX12_is_79 (by decide) ?_
              exact ih39 1 (i + 1) (by omega) (Or.inl ⟨rfl, by omega, hc0, fun j a c => by
                    by_cases g : j = i
                    · rw [g]; exact c67
                    · exact hsj j a (by omega)⟩) (by omega)
    exact L39 _ x 0 (by omega) (by
        rcases hx with ⟨h1, h2⟩ | ⟨h1, h2⟩
        · exact Or.inl ⟨h1, by omega, h2, fun j a c => by omega⟩
        · exact Or.inr ⟨h1, fun h => h2 h.1⟩) (Nat.lt_succ_self _)
  refine zA_aload_n dX12_is_0 rfl ?_
  refine zA_getI dX12_is_1 fX12_228 c73 rfl ?_
  refine zA_valI (w 73 19) rfl ?_
  refine zA_if_ne (tgt := 35) dX12_is_4 (by decide) (by first | assumption | exact hr _ _ | exact inR_mk (by omega) (by omega)) (fun c4 => ?_) (fun c4 => ?_)
  · skip
    refine zA_iconst dX12_is_35 ?_
    exact L36 _ (Or.inr ⟨rfl, by omega⟩)
  · skip
    obtain ⟨p9, hs9⟩ := rM_inl hR c4
    have hb9 := rM_b (show rM b n w (.inl p9) by rw [← hs9]; exact hR)
    refine zA_aload_n dX12_is_7 rfl ?_
    refine zA_getI dX12_is_8 fX12_205 c73 rfl ?_
    refine zA_valI (w 73 15) rfl ?_
    refine zA_iconst dX12_is_11 ?_
    refine zA_icmp_ne (tgt := 35) dX12_is_12 (by decide) (by first | assumption | exact hr _ _ | exact inR_mk (by omega) (by omega)) ⟨by decide, by decide⟩ (fun c12 => ?_) (fun c12 => ?_)
    · skip
      refine zA_iconst dX12_is_35 ?_
      exact L36 _ (Or.inr ⟨rfl, by omega⟩)
    · skip
      refine zA_aload_n dX12_is_15 rfl ?_
      refine zA_cStr (st := []) dX12_is_16 vJ0_length_8abf5 kX12_234 (s_strlen hk) (by decide) rfl rfl (Nat.le_of_ble_eq_true rfl) hk (zRt_el ?_)
      refine zA_aload_n dX12_is_19 rfl ?_
      refine zA_getI dX12_is_20 fX12_225 c73 rfl ?_
      refine zA_valI (w 73 18) rfl ?_
      refine zA_aload_n dX12_is_23 rfl ?_
      refine zA_getI dX12_is_24 fX12_202 c73 rfl ?_
      refine zA_valI (w 73 17) rfl ?_
      refine zA_isub dX12_is_27 ?_
      refine zA_icmp_ne (tgt := 35) dX12_is_28 (by decide) (by first | assumption | exact hr _ _ | exact inR_mk (by omega) (by omega)) (by first | assumption | exact hr _ _ | exact inR_mk (by omega) (by omega)) (fun c28 => ?_) (fun c28 => ?_)
      · skip
        refine zA_iconst dX12_is_35 ?_
        exact L36 _ (Or.inr ⟨rfl, by omega⟩)
      · skip
        refine zA_iconst dX12_is_31 ?_
        refine zA_goto (tgt := 36) dX12_is_32 (by decide) ?_
        exact L36 _ (Or.inl ⟨rfl, by omega⟩)

