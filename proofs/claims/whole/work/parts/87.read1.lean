/-! the reader of the class: a token -/
def pC (b : Int → Int) (n : Int) (w : zW) : Prop := (0 ≤ n ∧ n ≤ 600) ∧ w 2 1 = n ∧ ∀ i : Int, 0 ≤ i → i < n → w 1 i = b i
def rC (b : Int → Int) (n : Int) (w : zW) (s : zP) : Prop := match s with
  | .inl p => (0 ≤ p ∧ p ≤ n) ∧ (w 2 6 = 0 ∧ w 2 7 = -1) ∧ (w 2 3 = tkS b n p ∧ w 2 4 = tkE b n p) ∧ w 2 2 = tkK b n p ∧ w 2 5 = (if tkK b n p = 2 then (if 4 < tkE b n p - tkS b n p then 10000 else tkV b n p) else 0)
  | .inr e => (w 2 6 = e.1 ∧ e.1 ≠ 0 ∧ w 2 7 = e.2) ∧ 0 ≤ w 2 3 ∧ w 2 3 ≤ w 2 4 ∧ w 2 4 ≤ n
theorem tkE_0 {kd q R : Int} (h : ¬ (kd = 1 ∨ kd = 2)) : (if kd = 0 then q else q + 1) = if kd = 0 then q else if kd = 1 ∨ kd = 2 then R else q + 1 := by rw [if_neg h]
theorem pC_c {b : Int → Int} {n : Int} {w w' : zW} (h : pC b n w) (h1 : w' 2 1 = w 2 1) (h2 : ∀ x, w' 1 x = w 1 x) : pC b n w' := ⟨h.1, h1.trans h.2.1, fun i a c => (h2 i).trans (h.2.2 i a c)⟩
set_option maxRecDepth 100000 in
set_option maxHeartbeats 4000000 in
theorem s_readValue {l : Launch} {t dr : Nat} {w : zW} {b : Int → Int} {n : Int} (hp : pC b n w) (h0 : 0 ≤ w 2 3) (h1 : w 2 3 ≤ w 2 4) (h2 : w 2 4 ≤ n) (hd : ∀ x : Int, w 2 3 ≤ x → x < w 2 4 → 48 ≤ b x ∧ b x ≤ 57) : zSp l mX8_readValue false 1 0 0 [zR 2] (ZZ t dr 1) w (zRt (some (zI (if 4 < w 2 4 - w 2 3 then 10000 else dgv b (w 2 3) (w 2 4 - w 2 3).toNat))) (ZZ t dr 1) w) zNo := by
  refine zA_intro ⟨plainFor_of_name (by decide +kernel), Or.inl (by decide +kernel)⟩ rfl (Nat.le_of_ble_eq_true rfl) ?_
  obtain ⟨⟨n0, n6⟩, hn, hb⟩ := id hp
  refine zA_range (fun hr => ?_)
  show zA l mX8_readValue false 1 0 0 (zRt (some (zI (if 4 < w 2 4 - w 2 3 then 10000 else dgv b (w 2 3) (w 2 4 - w 2 3).toNat))) (ZZ t dr 1) w) zNo 0 [zR 2, .null, .null] [] (ZZ t dr 1) w
  refine zA_aload_n dX8_readValue_0 rfl ?_
  refine zA_getI dX8_readValue_1 fX8_25 c2 rfl ?_
  refine zA_valI (w 2 4) rfl ?_
  refine zA_aload_n dX8_readValue_4 rfl ?_
  refine zA_getI dX8_readValue_5 fX8_22 c2 rfl ?_
  refine zA_valI (w 2 3) rfl ?_
  refine zA_isub dX8_readValue_8 ?_
  refine zA_iconst dX8_readValue_9 ?_
  refine zA_icmp_le (tgt := 17) dX8_readValue_10 (by decide) (by first | assumption | exact hr _ _ | exact inR_mk (by omega) (by omega)) ⟨by decide, by decide⟩ (fun c10 => ?_) (fun c10 => ?_)
  · skip
    refine zA_iconst dX8_readValue_17 ?_
    refine zA_istore_n (lo1 := [zR 2, zI 0, .null]) dX8_readValue_18 (by decide) rfl rfl ?_
    refine zA_aload_n dX8_readValue_19 rfl ?_
    refine zA_getI dX8_readValue_20 fX8_22 c2 rfl ?_
    refine zA_valI (w 2 3) rfl ?_
    refine zA_istore_n (lo1 := [zR 2, zI 0, zI (w 2 3)]) dX8_readValue_23 (by decide) rfl rfl ?_
    have L24 : ∀ (z24 : Nat) (g x : Int) (x0 : w 2 3 ≤ x) (x1 : x ≤ w 2 4) (hg : g = dgv b (w 2 3) (x - w 2 3).toNat) (gr0 : 0 ≤ g ∧ g ≤ 9999) (zm : (w 2 4 - x).toNat < z24), zA l mX8_readValue false 1 0 0 (zRt (some (zI (if 4 < w 2 4 - w 2 3 then 10000 else dgv b (w 2 3) (w 2 4 - w 2 3).toNat))) (ZZ t dr 1) w) zNo 24 [zR 2, zI g, zI x] [] (ZZ t dr 1) w := by
      intro z24
      induction z24 with
      | zero => intro g x x0 x1 hg gr0 zm; exact absurd zm (Nat.not_lt_zero _)
      | succ z24 ih24 =>
        intro g x x0 x1 hg gr0 zm
        refine zA_iload_n dX8_readValue_24 rfl ?_
        refine zA_aload_n dX8_readValue_25 rfl ?_
        refine zA_getI dX8_readValue_26 fX8_25 c2 rfl ?_
        refine zA_valI (w 2 4) rfl ?_
        refine zA_icmp_ge (tgt := 53) dX8_readValue_29 (by decide) (by first | assumption | exact hr _ _ | exact inR_mk (by omega) (by omega)) (by first | assumption | exact hr _ _ | exact inR_mk (by omega) (by omega)) (fun c29 => ?_) (fun c29 => ?_)
        · skip
          refine zA_iload_n dX8_readValue_53 rfl ?_
          refine zA_iret dX8_readValue_54 rfl ?_
          exact zRt_i (by rw [if_neg (by omega), hg, show x = w 2 4 by omega])
        · skip
          have hbx := hb x (by omega) (by omega)
          have hdx := hd x x0 (by omega)
          have hg2 : g * 10 + w 1 x - 48 = dgv b (w 2 3) (x + 1 - w 2 3).toNat := by
            rw [show (x + 1 - w 2 3).toNat = (x - w 2 3).toNat + 1 by omega]
            show _ = dgv b (w 2 3) (x - w 2 3).toNat * 10 + b (w 2 3 + (((x - w 2 3).toNat : Nat) : Int)) - 48
            rw [← hg, show w 2 3 + (((x - w 2 3).toNat : Nat) : Int) = x by omega, hbx]
          have hg3 : 0 ≤ g * 10 + w 1 x - 48 ∧ g * 10 + w 1 x - 48 ≤ 9999 := by
            have h3 := dgv_b (b := b) (s := w 2 3) (x + 1 - w 2 3).toNat (fun j a c => hd _ (by omega) (by omega))
            have h4 : (10 : Nat) ^ (x + 1 - w 2 3).toNat ≤ 10 ^ 4 := Nat.pow_le_pow_right (by decide) (by omega)
            omega
          refine zA_iload_n dX8_readValue_32 rfl ?_
          refine zA_bipush dX8_readValue_33 rfl ?_
          refine zA_imul dX8_readValue_35 ?_
          refine zA_aload_n dX8_readValue_36 rfl ?_
          refine zA_getR (n := 1) dX8_readValue_37 fX8_9 c2 rfl ?_
          refine zA_iload_n dX8_readValue_40 rfl ?_
          refine zA_iaload dX8_readValue_41 c1 (by first | assumption | omega) (by first | assumption | omega) (by decide) ?_
          refine zA_iadd dX8_readValue_42 ?_
          refine zA_bipush dX8_readValue_43 rfl ?_
          refine zA_isub dX8_readValue_45 ?_
          refine zA_istore_n (lo1 := [zR 2, zI (((g * 10) + (w 1 x)) - 48), zI x]) dX8_readValue_46 (by decide) rfl rfl ?_
          refine zA_iinc (lo1 := [zR 2, zI (((g * 10) + (w 1 x)) - 48), zI (x + 1)]) dX8_readValue_47 rfl (by decide) rfl rfl ?_
          refine zA_goto (tgt := 24) dX8_readValue_50 (by decide) ?_
          exact ih24 _ (x + 1) (by omega) (by omega) hg2 hg3 (by omega)
    exact L24 _ 0 (w 2 3) (by omega) (by omega) (by rw [show w 2 3 - w 2 3 = 0 by omega]; rfl) (by omega) (Nat.lt_succ_self _)
  · skip
    refine zA_sipush dX8_readValue_13 rfl ?_
    refine zA_iret dX8_readValue_16 rfl ?_
    exact zRt_i (by rw [if_pos (by omega)])

set_option maxRecDepth 100000 in
set_option maxHeartbeats 4000000 in
theorem s_step {l : Launch} {t dr : Nat} {w : zW} {b : Int → Int} {n : Int} (hp : pC b n w) (hE : w 2 6 = 0 → (0 ≤ w 2 4 ∧ w 2 4 ≤ n) ∧ w 2 7 = -1) : zSp l mX8_step false 2 0 0 [zR 2] (ZZ t dr 1) w (fun v' S' w' => v' = none ∧ S' = (ZZ t dr 1) ∧ only 2 w w' ∧ pC b n w' ∧ ((w 2 6 ≠ 0 ∧ w' = w) ∨ (w 2 6 = 0 ∧ rC b n w' (.inl (w 2 4))))) zNo := by
  refine zA_intro ⟨plainFor_of_name (by decide +kernel), Or.inl (by decide +kernel)⟩ rfl (Nat.le_of_ble_eq_true rfl) ?_
  obtain ⟨⟨n0, n6⟩, hn, hb⟩ := id hp
  refine zA_range (fun hr => ?_)
  show zA l mX8_step false 2 0 0 (fun v' S' w' => v' = none ∧ S' = (ZZ t dr 1) ∧ only 2 w w' ∧ pC b n w' ∧ ((w 2 6 ≠ 0 ∧ w' = w) ∨ (w 2 6 = 0 ∧ rC b n w' (.inl (w 2 4))))) zNo 0 [zR 2, .null] [] (ZZ t dr 1) w
  refine zA_aload_n dX8_step_0 rfl ?_
  refine zA_getI dX8_step_1 fX8_31 c2 rfl ?_
  refine zA_valI (w 2 6) rfl ?_
  refine zA_if_eq (tgt := 8) dX8_step_4 (by decide) (by first | assumption | exact hr _ _ | exact inR_mk (by omega) (by omega)) (fun c4 => ?_) (fun c4 => ?_)
  · skip
    obtain ⟨⟨hE0, hE1⟩, hE7⟩ := hE c4
    refine zA_aload_n dX8_step_8 rfl ?_
    refine zA_aload_n dX8_step_9 rfl ?_
    refine zA_getI dX8_step_10 fX8_25 c2 rfl ?_
    refine zA_valI (w 2 4) rfl ?_
    refine zA_putI dX8_step_13 fX8_22 c2 rfl (by first | assumption | exact hr _ _ | exact inR_mk (by omega) (by omega)) ⟨rfl, rfl⟩ ?_
    refine zA_namew (fun w_1 hw_1 => ?_)
    refine zA_range (fun hr => ?_)
    replace hw_1 : w_1 = up w 2 3 (w 2 4) := hw_1
    have L16 : ∀ (z16 : Nat) (q : Int) (w1 : zW) (q0 : w 2 4 ≤ q) (q1 : q ≤ n) (hf : ∀ c x, (c ≠ 2 ∨ x ≠ 3) → w1 c x = w c x) (e3 : w1 2 3 = q) (hq : ∀ x : Int, w 2 4 ≤ x → x < q → x < n ∧ kdOf (b x) = 5) (zm : (n - q).toNat < z16), zA l mX8_step false 2 0 0 (fun v' S' w' => v' = none ∧ S' = (ZZ t dr 1) ∧ only 2 w w' ∧ pC b n w' ∧ ((w 2 6 ≠ 0 ∧ w' = w) ∨ (w 2 6 = 0 ∧ rC b n w' (.inl (w 2 4))))) zNo 16 [zR 2, .null] [] (ZZ t dr 1) w1 := by
      intro z16
      induction z16 with
      | zero => intro q w1 q0 q1 hf e3 hq zm; exact absurd zm (Nat.not_lt_zero _)
      | succ z16 ih16 =>
        intro q w1 q0 q1 hf e3 hq zm
        refine zA_range (fun hr => ?_)
        have e1 : w1 2 1 = n := (hf 2 1 (Or.inr (by decide))).trans hn
        have eb : ∀ i : Int, 0 ≤ i → i < n → w1 1 i = b i := fun i a c => (hf 1 i (Or.inl (by decide))).trans (hb i a c)
        refine zA_aload_n dX8_step_16 rfl ?_
        refine zA_getI dX8_step_17 fX8_22 c2 rfl ?_
        refine zA_valI (w1 2 3) rfl ?_
        refine zA_aload_n dX8_step_20 rfl ?_
        refine zA_getI dX8_step_21 fX8_15 c2 rfl ?_
        refine zA_valI (w1 2 1) rfl ?_
        have L56 : ∀ (hS : q = tkS b n (w 2 4)) , zA l mX8_step false 2 0 0 (fun v' S' w' => v' = none ∧ S' = (ZZ t dr 1) ∧ only 2 w w' ∧ pC b n w' ∧ ((w 2 6 ≠ 0 ∧ w' = w) ∨ (w 2 6 = 0 ∧ rC b n w' (.inl (w 2 4))))) zNo 56 [zR 2, .null] [] (ZZ t dr 1) w1 := by
          intro hS 
          refine zA_aload_n dX8_step_56 rfl ?_
          refine zA_aload_n dX8_step_57 rfl ?_
          refine zA_getI dX8_step_58 fX8_22 c2 rfl ?_
          refine zA_valI (w1 2 3) rfl ?_
          refine zA_aload_n dX8_step_61 rfl ?_
          refine zA_getI dX8_step_62 fX8_15 c2 rfl ?_
          refine zA_valI (w1 2 1) rfl ?_
          have L84 : ∀ (kd : Int) (hk : kd = tkK b n (w 2 4)), zA l mX8_step false 2 0 0 (fun v' S' w' => v' = none ∧ S' = (ZZ t dr 1) ∧ only 2 w w' ∧ pC b n w' ∧ ((w 2 6 ≠ 0 ∧ w' = w) ∨ (w 2 6 = 0 ∧ rC b n w' (.inl (w 2 4))))) zNo 84 [zR 2, .null] [zI kd, zR 2] (ZZ t dr 1) w1 := by
            intro kd hk
            have hkb := tkK_b (b := b) (n := n) (p := w 2 4)
            rw [← hk] at hkb
            refine zA_putI dX8_step_84 fX8_19 c2 rfl (by first | assumption | exact hr _ _ | exact inR_mk (by omega) (by omega)) ⟨rfl, rfl⟩ ?_
            refine zA_namew (fun w_2 hw_2 => ?_)
            refine zA_range (fun hr => ?_)
            replace hw_2 : w_2 = up w1 2 2 kd := hw_2
            have g2 : w_2 2 2 = kd := by rw [hw_2, up_same]
            have g3 : w_2 2 3 = q := by rw [hw_2, up_idx _ _ _ _ (by decide)]; exact e3
            refine zA_aload_n dX8_step_87 rfl ?_
            refine zA_aload_n dX8_step_88 rfl ?_
            refine zA_getI dX8_step_89 fX8_19 c2 rfl ?_
            refine zA_valI (w_2 2 2) rfl ?_
            have L108 : ∀ (e : Int) (he : e = if kd = 0 then q else q + 1), zA l mX8_step false 2 0 0 (fun v' S' w' => v' = none ∧ S' = (ZZ t dr 1) ∧ only 2 w w' ∧ pC b n w' ∧ ((w 2 6 ≠ 0 ∧ w' = w) ∨ (w 2 6 = 0 ∧ rC b n w' (.inl (w 2 4))))) zNo 108 [zR 2, .null] [zI e, zR 2] (ZZ t dr 1) w_2 := by
              intro e he
              have heb : q ≤ e ∧ e ≤ q + 1 := by rw [he]; split <;> omega
              refine zA_putI dX8_step_108 fX8_25 c2 rfl (by first | assumption | exact hr _ _ | exact inR_mk (by omega) (by omega)) ⟨rfl, rfl⟩ ?_
              refine zA_namew (fun w_3 hw_3 => ?_)
              refine zA_range (fun hr => ?_)
              replace hw_3 : w_3 = up w_2 2 4 e := hw_3
              have g2b : w_3 2 2 = kd := by rw [hw_3, up_idx _ _ _ _ (by decide)]; exact g2
              have hen : e ≤ n := by
                have h3 := tkE_b (b := b) (n := n) (p := w 2 4) hE1
                have h4 := tkK_0 (b := b) (n := n) (p := w 2 4) hE1
                rw [he]; split
                · omega
                · have : q ≠ n := fun g => by omega
                  omega
              refine zA_aload_n dX8_step_111 rfl ?_
              refine zA_getI dX8_step_112 fX8_19 c2 rfl ?_
              refine zA_valI (w_3 2 2) rfl ?_
              refine zA_iconst dX8_step_115 ?_
              have L132 : ∀ (r : Int) (hr0 : (r = 1 ∧ (kd = 1 ∨ kd = 2)) ∨ (r = 0 ∧ kd ≠ 1 ∧ kd ≠ 2)), zA l mX8_step false 2 0 0 (fun v' S' w' => v' = none ∧ S' = (ZZ t dr 1) ∧ only 2 w w' ∧ pC b n w' ∧ ((w 2 6 ≠ 0 ∧ w' = w) ∨ (w 2 6 = 0 ∧ rC b n w' (.inl (w 2 4))))) zNo 132 [zR 2, .null] [zI r] (ZZ t dr 1) w_3 := by
                intro r hr0
                refine zA_istore_n (lo1 := [zR 2, zI r]) dX8_step_132 (by decide) rfl rfl ?_
                have L133 : ∀ (z133 : Nat) (x : Int) (w2 : zW) (x0 : e ≤ x) (x1 : x ≤ n) (hf2 : ∀ c z, (c ≠ 2 ∨ (z ≠ 2 ∧ z ≠ 3 ∧ z ≠ 4)) → w2 c z = w c z) (e2 : w2 2 2 = kd) (e3b : w2 2 3 = q) (e4 : w2 2 4 = x) (hx : kd = 1 ∨ kd = 2 → ∀ y : Int, q + 1 ≤ y → y < x → y < n ∧ kdOf (b y) = kd) (hx0 : r = 0 → x = e) (zm : (n - x).toNat < z133), zA l mX8_step false 2 0 0 (fun v' S' w' => v' = none ∧ S' = (ZZ t dr 1) ∧ only 2 w w' ∧ pC b n w' ∧ ((w 2 6 ≠ 0 ∧ w' = w) ∨ (w 2 6 = 0 ∧ rC b n w' (.inl (w 2 4))))) zNo 133 [zR 2, zI r] [] (ZZ t dr 1) w2 := by
                  intro z133
                  induction z133 with
                  | zero => intro x w2 x0 x1 hf2 e2 e3b e4 hx hx0 zm; exact absurd zm (Nat.not_lt_zero _)
                  | succ z133 ih133 =>
                    intro x w2 x0 x1 hf2 e2 e3b e4 hx hx0 zm
                    refine zA_range (fun hr => ?_)
                    have e1c : w2 2 1 = n := (hf2 2 1 (Or.inr (by decide))).trans hn
                    have eb2 : ∀ i : Int, 0 ≤ i → i < n → w2 1 i = b i := fun i a c => (hf2 1 i (Or.inl (by decide))).trans (hb i a c)
                    refine zA_iload_n dX8_step_133 rfl ?_
                    have L180 : ∀ (hEn : x = tkE b n (w 2 4)) , zA l mX8_step false 2 0 0 (fun v' S' w' => v' = none ∧ S' = (ZZ t dr 1) ∧ only 2 w w' ∧ pC b n w' ∧ ((w 2 6 ≠ 0 ∧ w' = w) ∨ (w 2 6 = 0 ∧ rC b n w' (.inl (w 2 4))))) zNo 180 [zR 2, .null] [] (ZZ t dr 1) w2 := by
                      intro hEn 
                      refine zA_aload_n dX8_step_180 rfl ?_
                      refine zA_aload_n dX8_step_181 rfl ?_
                      refine zA_getI dX8_step_182 fX8_19 c2 rfl ?_
                      refine zA_valI (w2 2 2) rfl ?_
                      refine zA_iconst dX8_step_185 ?_
                      have L197 : ∀ (v : Int) (hv : v = if kd = 2 then (if 4 < x - q then 10000 else tkV b n (w 2 4)) else 0), zA l mX8_step false 2 0 0 (fun v' S' w' => v' = none ∧ S' = (ZZ t dr 1) ∧ only 2 w w' ∧ pC b n w' ∧ ((w 2 6 ≠ 0 ∧ w' = w) ∨ (w 2 6 = 0 ∧ rC b n w' (.inl (w 2 4))))) zNo 197 [zR 2, .null] [zI v, zR 2] (ZZ t dr 1) w2 := by
                        intro v hv
                        have hvr : 0 ≤ v ∧ v ≤ 10000 := by
                          rw [hv]
                          by_cases g : kd = 2
                          · rw [if_pos g]
                            by_cases g2 : 4 < x - q
                            · rw [if_pos g2]; decide
                            · rw [if_neg g2]
                              have := tkV_b (b := b) (n := n) (p := w 2 4) (by omega) (by rw [← hk]; exact g) (by rw [← hEn, ← hS]; omega)
                              omega
                          · rw [if_neg g]; decide
                        refine zA_putI dX8_step_197 fX8_28 c2 rfl (by first | assumption | exact hr _ _ | exact inR_mk (by omega) (by omega)) ⟨rfl, rfl⟩ ?_
                        refine zA_namew (fun w_4 hw_4 => ?_)
                        refine zA_range (fun hr => ?_)
                        replace hw_4 : w_4 = up w2 2 5 v := hw_4
                        refine zA_vret dX8_step_200 rfl ?_
                        have hf5 : ∀ c z, (c ≠ 2 ∨ (z ≠ 2 ∧ z ≠ 3 ∧ z ≠ 4 ∧ z ≠ 5)) → w_4 c z = w c z := fun c z a => by rw [hw_4, up_n (by omega)]; exact hf2 c z (by omega)
                        refine ⟨rfl, rfl, fun c z a => hf5 c z (Or.inl a), pC_c hp (hf5 2 1 (Or.inr (by decide))) (fun z => hf5 1 z (Or.inl (by decide))), Or.inr ⟨c4, ⟨hE0, hE1⟩, ⟨?_, ?_⟩, ⟨?_, ?_⟩, ?_, ?_⟩⟩
                        · rw [hf5 2 6 (Or.inr (by decide))]; exact c4
                        · rw [hf5 2 7 (Or.inr (by decide))]; exact hE7
                        · rw [hw_4, up_idx _ _ _ _ (by decide), e3b]; exact hS
                        · rw [hw_4, up_idx _ _ _ _ (by decide), e4]; exact hEn
                        · rw [hw_4, up_idx _ _ _ _ (by decide), e2]; exact hk
                        · rw [hw_4, up_same, ← hk, ← hEn, ← hS]; exact hv
                      refine zA_icmp_ne (tgt := 196) dX8_step_186 (by decide) (by first | assumption | exact hr _ _ | exact inR_mk (by omega) (by omega)) ⟨by decide, by decide⟩ (fun c186 => ?_) (fun c186 => ?_)
                      · skip
                        refine zA_iconst dX8_step_196 ?_
                        exact L197 _ (by rw [if_neg (by omega)])
                      · skip
                        refine zA_aload_n dX8_step_189 rfl ?_
                        refine zA_cV (st := [zR 2]) dX8_step_190 vX8_readValue kX8_156 (s_readValue (w := w2) ⟨⟨n0, n6⟩, e1c, eb2⟩ (by omega) (by omega) (by omega) (fun y a c => by
                          have h5 := tkE_k (b := b) (n := n) (p := w 2 4) (Or.inr (by omega)) (x := y) (by omega) (by omega)
                          rw [← hk] at h5
                          exact kdOf_2.mp (h5.2.trans (by omega)))) (by decide) c2 rfl rfl (Nat.le_of_ble_eq_true rfl) rfl (zRt_el ?_)
                        show zA l mX8_step false 2 0 0 (fun v' S' w' => v' = none ∧ S' = (ZZ t dr 1) ∧ only 2 w w' ∧ pC b n w' ∧ ((w 2 6 ≠ 0 ∧ w' = w) ∨ (w 2 6 = 0 ∧ rC b n w' (.inl (w 2 4))))) zNo 193 [zR 2, .null] [zI (if 4 < w2 2 4 - w2 2 3 then 10000 else dgv b (w2 2 3) (w2 2 4 - w2 2 3).toNat), zR 2] (ZZ t dr 1) w2
                        refine zA_goto (tgt := 197) dX8_step_193 (by decide) ?_
                        exact L197 _ (by rw [e4, e3b, if_pos (show kd = 2 by omega)]; unfold tkV; rw [← hEn, ← hS])
                    refine zA_if_eq (tgt := 180) dX8_step_134 (by decide) (by first | assumption | exact hr _ _ | exact inR_mk (by omega) (by omega)) (fun c134 => ?_) (fun c134 => ?_)
                    · skip
                      skip
                      refine zA_drop 1 (lo1 := [zR 2, .null]) rfl ?_
                      exact L180 (by rw [hx0 c134, he]; unfold tkE; rw [← hk, ← hS]; exact tkE_0 (by omega))
                    · skip
                      refine zA_aload_n dX8_step_137 rfl ?_
                      refine zA_getI dX8_step_138 fX8_25 c2 rfl ?_
                      refine zA_valI (w2 2 4) rfl ?_
                      refine zA_aload_n dX8_step_141 rfl ?_
                      refine zA_getI dX8_step_142 fX8_15 c2 rfl ?_
                      refine zA_valI (w2 2 1) rfl ?_
                      refine zA_icmp_ge (tgt := 180) dX8_step_145 (by decide) (by first | assumption | exact hr _ _ | exact inR_mk (by omega) (by omega)) (by first | assumption | exact hr _ _ | exact inR_mk (by omega) (by omega)) (fun c145 => ?_) (fun c145 => ?_)
                      · skip
                        skip
                        refine zA_drop 1 (lo1 := [zR 2, .null]) rfl ?_
                        exact L180 (by
                          have hkk : kd = 1 ∨ kd = 2 := by omega
                          have he2 : e = q + 1 := by rw [he, if_neg (by omega)]
                          unfold tkE; rw [← hk, ← hS, if_neg (by omega), if_pos hkk]
                          exact (rnF_eq ⟨by omega, hx hkk, fun g => by omega⟩).symm)
                      · skip
                        have hkq2 := kdOf_b (w2 1 (w2 2 4))
                        refine zA_aload_n dX8_step_148 rfl ?_
                        refine zA_getR (n := 1) dX8_step_149 fX8_9 c2 rfl ?_
                        refine zA_aload_n dX8_step_152 rfl ?_
                        refine zA_getI dX8_step_153 fX8_25 c2 rfl ?_
                        refine zA_valI (w2 2 4) rfl ?_
                        refine zA_iaload dX8_step_156 c1 (by first | assumption | omega) (by first | assumption | omega) (by decide) ?_
                        refine zA_cS (st := []) dX8_step_157 sX8_kindOf kX8_153 (s_kindOf (w := w2) (S := (ZZ t dr 1)) (c := (w2 1 (w2 2 4))) (hr _ _)) (by decide) rfl rfl (Nat.le_of_ble_eq_true rfl) (zRt_el ?_)
                        show zA l mX8_step false 2 0 0 (fun v' S' w' => v' = none ∧ S' = (ZZ t dr 1) ∧ only 2 w w' ∧ pC b n w' ∧ ((w 2 6 ≠ 0 ∧ w' = w) ∨ (w 2 6 = 0 ∧ rC b n w' (.inl (w 2 4))))) zNo 160 [zR 2, zI r] [zI (kdOf (w2 1 (w2 2 4)))] (ZZ t dr 1) w2
                        refine zA_aload_n dX8_step_160 rfl ?_
                        refine zA_getI dX8_step_161 fX8_19 c2 rfl ?_
                        refine zA_valI (w2 2 2) rfl ?_
                        refine zA_icmp_ne (tgt := 180) dX8_step_164 (by decide) (by first | assumption | exact hr _ _ | exact inR_mk (by omega) (by omega)) (by first | assumption | exact hr _ _ | exact inR_mk (by omega) (by omega)) (fun c164 => ?_) (fun c164 => ?_)
                        · skip
                          skip
                          refine zA_drop 1 (lo1 := [zR 2, .null]) rfl ?_
                          exact L180 (by
                            have hkk : kd = 1 ∨ kd = 2 := by omega
                            have he2 : e = q + 1 := by rw [he, if_neg (by omega)]
                            unfold tkE; rw [← hk, ← hS, if_neg (by omega), if_pos hkk]
                            exact (rnF_eq ⟨by omega, hx hkk, fun g => c164 (by rw [e4, e2, eb2 x (by omega) g.1]; exact g.2)⟩).symm)
                        · skip
                          refine zA_aload_n dX8_step_167 rfl ?_
                          refine zA_dup dX8_step_168 rfl ?_
                          refine zA_getI dX8_step_169 fX8_25 c2 rfl ?_
                          refine zA_valI (w2 2 4) rfl ?_
                          refine zA_iconst dX8_step_172 ?_
                          refine zA_iadd dX8_step_173 ?_
                          refine zA_putI dX8_step_174 fX8_25 c2 rfl (by first | assumption | exact hr _ _ | exact inR_mk (by omega) (by omega)) ⟨rfl, rfl⟩ ?_
                          refine zA_namew (fun w_5 hw_5 => ?_)
                          refine zA_range (fun hr => ?_)
                          replace hw_5 : w_5 = up w2 2 4 ((w2 2 4) + 1) := hw_5
                          refine zA_goto (tgt := 133) dX8_step_177 (by decide) ?_
                          exact ih133 (x + 1) _ (by omega) (by omega) (fun c z a => by rw [hw_5, up_n (by omega)]; exact hf2 c z a) (by rw [hw_5, up_idx _ _ _ _ (by decide)]; exact e2) (by rw [hw_5, up_idx _ _ _ _ (by decide)]; exact e3b) (by rw [hw_5, up_same]; omega) (fun a y c d => by
                                by_cases g : y = x
                                · rw [g]; exact ⟨by omega, by rw [← eb2 x (by omega) (by omega), ← e4, ← e2]; exact c164⟩
                                · exact hx a y c (by omega)) (fun g => by omega) (by omega)
                exact L133 _ e w_3 (by omega) hen (fun c z a => by rw [hw_3, up_n (by omega), hw_2, up_n (by omega)]; exact hf c z (by omega)) (by rw [hw_3, up_idx _ _ _ _ (by decide), hw_2, up_same]) (by rw [hw_3, up_idx _ _ _ _ (by decide), hw_2, up_idx _ _ _ _ (by decide)]; exact e3) (by rw [hw_3, up_same]) (fun a y c d => by rw [he, if_neg (by omega)] at d; omega) (fun _ => rfl) (Nat.lt_succ_self _)
              refine zA_icmp_eq (tgt := 127) dX8_step_116 (by decide) (by first | assumption | exact hr _ _ | exact inR_mk (by omega) (by omega)) ⟨by decide, by decide⟩ (fun c116 => ?_) (fun c116 => ?_)
              · skip
                refine zA_iconst dX8_step_127 ?_
                refine zA_goto (tgt := 132) dX8_step_128 (by decide) ?_
                exact L132 _ (by omega)
              · skip
                refine zA_aload_n dX8_step_119 rfl ?_
                refine zA_getI dX8_step_120 fX8_19 c2 rfl ?_
                refine zA_valI (w_3 2 2) rfl ?_
                refine zA_iconst dX8_step_123 ?_
                refine zA_icmp_ne (tgt := 131) dX8_step_124 (by decide) (by first | assumption | exact hr _ _ | exact inR_mk (by omega) (by omega)) ⟨by decide, by decide⟩ (fun c124 => ?_) (fun c124 => ?_)
                · skip
                  refine zA_iconst dX8_step_131 ?_
                  exact L132 _ (by omega)
                · skip
                  refine zA_iconst dX8_step_127 ?_
                  refine zA_goto (tgt := 132) dX8_step_128 (by decide) ?_
                  exact L132 _ (by omega)
            refine zA_if_ne (tgt := 102) dX8_step_92 (by decide) (by first | assumption | exact hr _ _ | exact inR_mk (by omega) (by omega)) (fun c92 => ?_) (fun c92 => ?_)
            · skip
              refine zA_aload_n dX8_step_102 rfl ?_
              refine zA_getI dX8_step_103 fX8_22 c2 rfl ?_
              refine zA_valI (w_2 2 3) rfl ?_
              refine zA_iconst dX8_step_106 ?_
              refine zA_iadd dX8_step_107 ?_
              exact L108 _ (by rw [if_neg (by omega), g3])
            · skip
              refine zA_aload_n dX8_step_95 rfl ?_
              refine zA_getI dX8_step_96 fX8_22 c2 rfl ?_
              refine zA_valI (w_2 2 3) rfl ?_
              refine zA_goto (tgt := 108) dX8_step_99 (by decide) ?_
              exact L108 _ (by rw [if_pos (by omega), g3])
          refine zA_icmp_ge (tgt := 83) dX8_step_65 (by decide) (by first | assumption | exact hr _ _ | exact inR_mk (by omega) (by omega)) (by first | assumption | exact hr _ _ | exact inR_mk (by omega) (by omega)) (fun c65 => ?_) (fun c65 => ?_)
          · skip
            refine zA_iconst dX8_step_83 ?_
            exact L84 _ (by unfold tkK; rw [← hS, if_neg (by omega)])
          · skip
            refine zA_aload_n dX8_step_68 rfl ?_
            refine zA_getR (n := 1) dX8_step_69 fX8_9 c2 rfl ?_
            refine zA_aload_n dX8_step_72 rfl ?_
            refine zA_getI dX8_step_73 fX8_22 c2 rfl ?_
            refine zA_valI (w1 2 3) rfl ?_
            refine zA_iaload dX8_step_76 c1 (by first | assumption | omega) (by first | assumption | omega) (by decide) ?_
            refine zA_cS (st := [zR 2]) dX8_step_77 sX8_kindOf kX8_153 (s_kindOf (w := w1) (S := (ZZ t dr 1)) (c := (w1 1 (w1 2 3))) (hr _ _)) (by decide) rfl rfl (Nat.le_of_ble_eq_true rfl) (zRt_el ?_)
            show zA l mX8_step false 2 0 0 (fun v' S' w' => v' = none ∧ S' = (ZZ t dr 1) ∧ only 2 w w' ∧ pC b n w' ∧ ((w 2 6 ≠ 0 ∧ w' = w) ∨ (w 2 6 = 0 ∧ rC b n w' (.inl (w 2 4))))) zNo 80 [zR 2, .null] [zI (kdOf (w1 1 (w1 2 3))), zR 2] (ZZ t dr 1) w1
            refine zA_goto (tgt := 84) dX8_step_80 (by decide) ?_
            exact L84 _ (by unfold tkK; rw [← hS, if_pos (by omega), e3, eb q (by omega) (by omega)])
        refine zA_icmp_ge (tgt := 56) dX8_step_24 (by decide) (by first | assumption | exact hr _ _ | exact inR_mk (by omega) (by omega)) (by first | assumption | exact hr _ _ | exact inR_mk (by omega) (by omega)) (fun c24 => ?_) (fun c24 => ?_)
        · skip
          skip
          exact L56 (by rw [← rnF_eq (P := fun x => kdOf (b x) = 5) (n := n) (p := w 2 4) (q := q) ⟨q0, hq, fun g => by omega⟩]; rfl)
        · skip
          have hkq := kdOf_b (w1 1 (w1 2 3))
          refine zA_aload_n dX8_step_27 rfl ?_
          refine zA_getR (n := 1) dX8_step_28 fX8_9 c2 rfl ?_
          refine zA_aload_n dX8_step_31 rfl ?_
          refine zA_getI dX8_step_32 fX8_22 c2 rfl ?_
          refine zA_valI (w1 2 3) rfl ?_
          refine zA_iaload dX8_step_35 c1 (by first | assumption | omega) (by first | assumption | omega) (by decide) ?_
          refine zA_cS (st := []) dX8_step_36 sX8_kindOf kX8_153 (s_kindOf (w := w1) (S := (ZZ t dr 1)) (c := (w1 1 (w1 2 3))) (hr _ _)) (by decide) rfl rfl (Nat.le_of_ble_eq_true rfl) (zRt_el ?_)
          show zA l mX8_step false 2 0 0 (fun v' S' w' => v' = none ∧ S' = (ZZ t dr 1) ∧ only 2 w w' ∧ pC b n w' ∧ ((w 2 6 ≠ 0 ∧ w' = w) ∨ (w 2 6 = 0 ∧ rC b n w' (.inl (w 2 4))))) zNo 39 [zR 2, .null] [zI (kdOf (w1 1 (w1 2 3)))] (ZZ t dr 1) w1
          refine zA_iconst dX8_step_39 ?_
          refine zA_icmp_ne (tgt := 56) dX8_step_40 (by decide) (by first | assumption | exact hr _ _ | exact inR_mk (by omega) (by omega)) ⟨by decide, by decide⟩ (fun c40 => ?_) (fun c40 => ?_)
          · skip
            skip
            exact L56 (by rw [← rnF_eq (P := fun x => kdOf (b x) = 5) (n := n) (p := w 2 4) (q := q) ⟨q0, hq, fun g => c40 (by rw [e3, eb q (by omega) g.1]; exact g.2)⟩]; rfl)
          · skip
            refine zA_aload_n dX8_step_43 rfl ?_
            refine zA_dup dX8_step_44 rfl ?_
            refine zA_getI dX8_step_45 fX8_22 c2 rfl ?_
            refine zA_valI (w1 2 3) rfl ?_
            refine zA_iconst dX8_step_48 ?_
            refine zA_iadd dX8_step_49 ?_
            refine zA_putI dX8_step_50 fX8_22 c2 rfl (by first | assumption | exact hr _ _ | exact inR_mk (by omega) (by omega)) ⟨rfl, rfl⟩ ?_
            refine zA_namew (fun w_6 hw_6 => ?_)
            refine zA_range (fun hr => ?_)
            replace hw_6 : w_6 = up w1 2 3 ((w1 2 3) + 1) := hw_6
            refine zA_goto (tgt := 16) dX8_step_53 (by decide) ?_
            exact ih16 (q + 1) _ (by omega) (by omega) (fun c x a => by rw [hw_6, up_n a]; exact hf c x a) (by rw [hw_6, up_same]; omega) (fun x a c => by
                  by_cases g : x = q
                  · rw [g]; exact ⟨by omega, by rw [← eb q (by omega) (by omega), ← e3]; exact c40⟩
                  · exact hq x a (by omega)) (by omega)
    exact L16 _ (w 2 4) _ (by omega) (by omega) (fun c x a => by rw [hw_1, up_n a]) (by rw [hw_1, up_same]) (fun x a c => by omega) (Nat.lt_succ_self _)
  · skip
    refine zA_vret dX8_step_7 rfl ?_
    exact ⟨rfl, rfl, only_rfl, hp, Or.inl ⟨c4, rfl⟩⟩

set_option maxRecDepth 100000 in
set_option maxHeartbeats 4000000 in
theorem s_isWord {l : Launch} {t dr : Nat} {w : zW} {b : Int → Int} {n : Int} {k : Nat} (hk : k < 11) (hp : pC b n w) (h0 : 0 ≤ w 2 3) (h1 : w 2 3 ≤ w 2 4) (h2 : w 2 4 ≤ n) : zSp l mX8_isWord false 5 0 0 [zR 2, zR (1000 + k)] (ZZ t dr 1) w (zRp1 (isB (w 2 2 = 1 ∧ w 2 4 - w 2 3 = sLen k ∧ ∀ i : Int, 0 ≤ i → i < sLen k → b (w 2 3 + i) = sCh k i)) (ZZ t dr 1) w) zNo := by
  refine zA_intro ⟨plainFor_of_name (by decide +kernel), Or.inl (by decide +kernel)⟩ rfl (Nat.le_of_ble_eq_true rfl) ?_
  obtain ⟨⟨n0, n6⟩, hn, hb⟩ := id hp
  have hlb := sLen_b hk
  refine zA_range (fun hr => ?_)
  show zA l mX8_isWord false 5 0 0 (zRp1 (isB (w 2 2 = 1 ∧ w 2 4 - w 2 3 = sLen k ∧ ∀ i : Int, 0 ≤ i → i < sLen k → b (w 2 3 + i) = sCh k i)) (ZZ t dr 1) w) zNo 0 [zR 2, zR (1000 + k), .null] [] (ZZ t dr 1) w
  refine zA_aload_n dX8_isWord_0 rfl ?_
  refine zA_getI dX8_isWord_1 fX8_19 c2 rfl ?_
  refine zA_valI (w 2 2) rfl ?_
  refine zA_iconst dX8_isWord_4 ?_
  refine zA_icmp_ne (tgt := 24) dX8_isWord_5 (by decide) (by first | assumption | exact hr _ _ | exact inR_mk (by omega) (by omega)) ⟨by decide, by decide⟩ (fun c5 => ?_) (fun c5 => ?_)
  · skip
    skip
    refine zA_iconst dX8_isWord_24 ?_
    refine zA_zret dX8_isWord_25 rfl (Or.inl rfl) ?_
    exact ⟨⟨0, rfl, Or.inr ⟨rfl, fun h => c5 h.1⟩⟩, rfl, rfl⟩
  · skip
    refine zA_aload_n dX8_isWord_8 rfl ?_
    refine zA_getI dX8_isWord_9 fX8_25 c2 rfl ?_
    refine zA_valI (w 2 4) rfl ?_
    refine zA_aload_n dX8_isWord_12 rfl ?_
    refine zA_getI dX8_isWord_13 fX8_22 c2 rfl ?_
    refine zA_valI (w 2 3) rfl ?_
    refine zA_isub dX8_isWord_16 ?_
    refine zA_aload_n dX8_isWord_17 rfl ?_
    refine zA_cStr (st := [zI ((w 2 4) - (w 2 3))]) dX8_isWord_18 vJ0_length_8abf5 kX8_144 (s_strlen hk) (by decide) rfl rfl (Nat.le_of_ble_eq_true rfl) hk (zRt_el ?_)
    refine zA_icmp_eq (tgt := 26) dX8_isWord_21 (by decide) (by first | assumption | exact hr _ _ | exact inR_mk (by omega) (by omega)) (by first | assumption | exact hr _ _ | exact inR_mk (by omega) (by omega)) (fun c21 => ?_) (fun c21 => ?_)
    · skip
      refine zA_iconst dX8_isWord_26 ?_
      refine zA_istore_n (lo1 := [zR 2, zR (1000 + k), zI 0]) dX8_isWord_27 (by decide) rfl rfl ?_
      have L28 : ∀ (z28 : Nat) (i : Int) (i0 : 0 ≤ i) (i1 : i ≤ sLen k) (hi : ∀ j : Int, 0 ≤ j → j < i → b (w 2 3 + j) = sCh k j) (zm : (sLen k - i).toNat < z28), zA l mX8_isWord false 5 0 0 (zRp1 (isB (w 2 2 = 1 ∧ w 2 4 - w 2 3 = sLen k ∧ ∀ i : Int, 0 ≤ i → i < sLen k → b (w 2 3 + i) = sCh k i)) (ZZ t dr 1) w) zNo 28 [zR 2, zR (1000 + k), zI i] [] (ZZ t dr 1) w := by
        intro z28
        induction z28 with
        | zero => intro i i0 i1 hi zm; exact absurd zm (Nat.not_lt_zero _)
        | succ z28 ih28 =>
          intro i i0 i1 hi zm
          refine zA_iload_n dX8_isWord_28 rfl ?_
          refine zA_aload_n dX8_isWord_29 rfl ?_
          refine zA_cStr (st := [zI i]) dX8_isWord_30 vJ0_length_8abf5 kX8_144 (s_strlen hk) (by decide) rfl rfl (Nat.le_of_ble_eq_true rfl) hk (zRt_el ?_)
          refine zA_icmp_ge (tgt := 63) dX8_isWord_33 (by decide) (by first | assumption | exact hr _ _ | exact inR_mk (by omega) (by omega)) (by first | assumption | exact hr _ _ | exact inR_mk (by omega) (by omega)) (fun c33 => ?_) (fun c33 => ?_)
          · skip
            refine zA_iconst dX8_isWord_63 ?_
            refine zA_zret dX8_isWord_64 rfl (Or.inr rfl) ?_
            exact ⟨⟨1, rfl, Or.inl ⟨rfl, by omega, by omega, fun j a c => hi j a (by omega)⟩⟩, rfl, rfl⟩
          · skip
            have hchb := sCh_b hk i0 (show i < sLen k by omega)
            refine zA_aload_n dX8_isWord_36 rfl ?_
            refine zA_getR (n := 1) dX8_isWord_37 fX8_9 c2 rfl ?_
            refine zA_aload_n dX8_isWord_40 rfl ?_
            refine zA_getI dX8_isWord_41 fX8_22 c2 rfl ?_
            refine zA_valI (w 2 3) rfl ?_
            refine zA_iload_n dX8_isWord_44 rfl ?_
            refine zA_iadd dX8_isWord_45 ?_
            refine zA_iaload dX8_isWord_46 c1 (by first | assumption | omega) (by first | assumption | omega) (by decide) ?_
            refine zA_aload_n dX8_isWord_47 rfl ?_
            refine zA_iload_n dX8_isWord_48 rfl ?_
            refine zA_cStr (As := [zI i]) (st := [zI (w 1 ((w 2 3) + i))]) dX8_isWord_49 vJ0_charAt_5068e kX8_149 (s_charAt hk (by omega) (by omega)) (by decide) rfl rfl (Nat.le_of_ble_eq_true rfl) hk (zRt_el ?_)
            refine zA_icmp_eq (tgt := 57) dX8_isWord_52 (by decide) (by first | assumption | exact hr _ _ | exact inR_mk (by omega) (by omega)) (by first | assumption | exact hr _ _ | exact inR_mk (by omega) (by omega)) (fun c52 => ?_) (fun c52 => ?_)
            · skip
              refine zA_iinc (lo1 := [zR 2, zR (1000 + k), zI (i + 1)]) dX8_isWord_57 rfl (by decide) rfl rfl ?_
              refine zA_goto (tgt := 28) dX8_isWord_60 (by decide) ?_
              exact ih28 (i + 1) (by omega) (by omega) (fun j a c => by
                    by_cases g : j = i
                    · rw [g, ← hb _ (by omega) (by omega)]; exact c52
                    · exact hi j a (by omega)) (by omega)
            · skip
              refine zA_iconst dX8_isWord_55 ?_
              refine zA_zret dX8_isWord_56 rfl (Or.inl rfl) ?_
              exact ⟨⟨0, rfl, Or.inr ⟨rfl, fun h => c52 (by rw [hb _ (by omega) (by omega)]; exact h.2.2 i i0 (by omega))⟩⟩, rfl, rfl⟩
      exact L28 _ 0 (by omega) (by omega) (fun j a c => by omega) (Nat.lt_succ_self _)
    · skip
      skip
      refine zA_iconst dX8_isWord_24 ?_
      refine zA_zret dX8_isWord_25 rfl (Or.inl rfl) ?_
      exact ⟨⟨0, rfl, Or.inr ⟨rfl, fun h => c21 h.2.1⟩⟩, rfl, rfl⟩

