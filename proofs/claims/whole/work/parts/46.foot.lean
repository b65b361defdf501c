/-! the foot of bricks -/
def zIr (P : Prop) (R : Int → Prop) (S : zS) (w1 : zW) : Option Value → zS → zW → Prop := fun v' S' w' => P ∧ (∃ r, v' = some (zI r) ∧ R r) ∧ S' = S ∧ w' = w1
def zMr (P1 P2 : Prop) (R : Int → Prop) (S : zS) (w w1 : zW) : Option Value → zS → zW → Prop := fun v' S' w' => S' = S ∧ ((P1 ∧ v' = some (zI 0) ∧ w' = up w 73 1 1) ∨ (¬ P1 ∧ P2 ∧ v' = some (zI 0) ∧ w' = up w 73 1 2) ∨ (¬ P1 ∧ ¬ P2 ∧ (∃ r, v' = some (zI r) ∧ R r) ∧ w' = w1))
def isB (P : Prop) (r : Int) : Prop := (r = 1 ∧ P) ∨ (r = 0 ∧ ¬ P)
theorem isB_01 {P : Prop} {r : Int} (h : isB P r) : r = 0 ∨ r = 1 := by rcases h with ⟨h, _⟩ | ⟨h, _⟩ <;> omega
theorem isB_R {P : Prop} {r : Int} (h : isB P r) : inR r := by rcases isB_01 h with rfl | rfl <;> exact ⟨by decide, by decide⟩
theorem isB_ne {P : Prop} {r : Int} (h : isB P r) (k : r ≠ 0) : P := by rcases h with ⟨_, h⟩ | ⟨h, _⟩; exact h; exact absurd h k
theorem isB_eq {P : Prop} {r : Int} (h : isB P r) (k : r = 0) : ¬ P := by rcases h with ⟨h, _⟩ | ⟨_, h⟩; omega; exact h
theorem isB_u {P P' : Prop} {r r' : Int} (hp : P ↔ P') (h : isB P r) (h' : isB P' r') : r = r' := by
  rcases h with ⟨a, b⟩ | ⟨a, b⟩ <;> rcases h' with ⟨c, e⟩ | ⟨c, e⟩
  · omega
  · exact absurd (hp.mp b) e
  · exact absurd (hp.mpr e) b
  · omega
theorem zsv_b {i : Int} (h0 : 0 ≤ i) (h1 : i < 16) : (-100 ≤ zsv0 i ∧ zsv0 i ≤ 100) ∧ (-100 ≤ zsv1 i ∧ zsv1 i ≤ 100) := by
  have h : ∀ k : Nat, k < 16 → (-100 ≤ zsv0 (k : Int) ∧ zsv0 (k : Int) ≤ 100) ∧ (-100 ≤ zsv1 (k : Int) ∧ zsv1 (k : Int) ≤ 100) := by decide
  have := h i.toNat (by omega)
  rwa [zcast h0] at this
theorem zmulA {x y A B : Int} (h1 : -A ≤ x) (h2 : x ≤ A) (h3 : -B ≤ y) (h4 : y ≤ B) : -(A * B) ≤ x * y ∧ x * y ≤ A * B := by
  have hA : 0 ≤ A := by omega
  have hB : 0 ≤ B := by omega
  have a1 := Int.mul_nonneg (show 0 ≤ A - x by omega) (show 0 ≤ B - y by omega)
  have a2 := Int.mul_nonneg (show 0 ≤ A + x by omega) (show 0 ≤ B + y by omega)
  have a3 := Int.mul_nonneg (show 0 ≤ A - x by omega) (show 0 ≤ B + y by omega)
  have a4 := Int.mul_nonneg (show 0 ≤ A + x by omega) (show 0 ≤ B - y by omega)
  simp only [Int.sub_mul, Int.mul_sub, Int.add_mul, Int.mul_add] at a1 a2 a3 a4
  omega
abbrev ins (a b x y : Int) : Prop := 0 < (zsv0 b - zsv0 a) * (y - zsv1 a) - (zsv1 b - zsv1 a) * (x - zsv0 a)
abbrev okC (x y : Int) : Prop := (-95 ≤ x ∧ x ≤ 95) ∧ (-95 ≤ y ∧ y ≤ 95)
def nxt (set a b : Int) : Prop := tb set b = true ∧ ((a < b ∧ ∀ j, a < j → j < b → tb set j = false) ∨ (b ≤ a ∧ (∀ j, a < j → j < 16 → tb set j = false) ∧ ∀ j, 0 ≤ j → j < b → tb set j = false))
theorem nxt_u {set a b b' : Int} (h0 : 0 ≤ b) (h1 : b < 16) (k0 : 0 ≤ b') (k1 : b' < 16) (h : nxt set a b) (h' : nxt set a b') : b = b' := by
  obtain ⟨t1, h⟩ := h
  obtain ⟨t2, k⟩ := h'
  have key : ¬ b < b' ∧ ¬ b' < b := by
    rcases h with ⟨h2, h3⟩ | ⟨h2, h3, h4⟩ <;> rcases k with ⟨k2, k3⟩ | ⟨k2, k3, k4⟩
    · exact ⟨fun q => (by rw [k3 b h2 q] at t1; cases t1), fun q => (by rw [h3 b' k2 q] at t2; cases t2)⟩
    · rw [k3 b h2 h1] at t1; cases t1
    · rw [h3 b' k2 k1] at t2; cases t2
    · exact ⟨fun q => (by rw [k4 b h0 q] at t1; cases t1), fun q => (by rw [h4 b' k0 q] at t2; cases t2)⟩
  omega
def stOn (set x y : Int) : Prop := 3 ≤ popc set ∧ ∀ a b : Int, 0 ≤ a → a < 16 → 0 ≤ b → b < 16 → tb set a = true → nxt set a b → ins a b x y
abbrev wo (b : Int) : Int := iAnd 65535 (iXor (iShl 1 b) (-1))
theorem tb_65535 {j : Int} (h0 : 0 ≤ j) (h1 : j < 16) : tb 65535 j = true := by
  have h : ∀ k : Nat, k < 16 → tb 65535 (k : Int) = true := by decide
  have := h j.toNat (by omega)
  rwa [zcast h0] at this
theorem iAnd_15 {z : Int} : iAnd z 15 = z % 16 := by
  have h := iAnd_m (z := z) 4 (by decide)
  rw [show (2 : Int) ^ 4 - 1 = 15 by decide, show (2 : Int) ^ 4 = 16 by decide] at h
  exact h
theorem tb_lt16 {x : Int} (h0 : 0 ≤ x) (h : ∀ j : Int, 16 ≤ j → tb x j = false) : x < 65536 := by
  have e := tb_lt (k := 16) h0 (fun j hj => h j (by omega))
  rw [show (2 : Int) ^ 16 = 65536 by decide] at e
  exact e
theorem tb_hi16 {x j : Int} (h : x < 65536) (hj : 16 ≤ j) : tb x j = false := by
  refine tb_hi (k := 16) ?_ (by omega)
  rw [show (2 : Int) ^ 16 = 65536 by decide]
  exact h
theorem wo_b {b : Int} (h0 : 0 ≤ b) (h1 : b < 16) : 0 ≤ wo b ∧ wo b < 65536 := by
  have h := tb_clr (x := 65535) (by decide) (by decide) h0 (show b < 31 by omega)
  exact ⟨h.1.1, tb_lt16 h.1.1 (fun j hj => by
    rw [h.2 j (by omega), tb_hi16 (by decide) hj]; rfl)⟩
def isSpare (x y r : Int) : Prop := (0 ≤ r ∧ r < 65536) ∧ ∀ b : Int, 0 ≤ b → b < 16 → (tb r b = true ↔ stOn (wo b) x y)
abbrev farV (p q j : Int) : Int := zsv0 j * p + zsv1 j * q
def isFar (p q r : Int) : Prop := (0 ≤ r ∧ r < 16) ∧ (∀ j, 0 ≤ j → j < r → farV p q j < farV p q r) ∧ ∀ j, r < j → j < 16 → farV p q j ≤ farV p q r
theorem isFar_u {p q r r' : Int} (h : isFar p q r) (h' : isFar p q r') : r = r' := by
  obtain ⟨h1, h2, h3⟩ := h
  obtain ⟨k1, k2, k3⟩ := h'
  rcases Int.lt_trichotomy r r' with g | g | g
  · have := k2 r h1.1 g; have := h3 r' g k1.2; omega
  · exact g
  · have := h2 r' k1.1 g; have := k3 r g h1.2; omega
def flA (k n x y : Int) : Prop := ∃ i : Int, (0 ≤ i ∧ i < n) ∧ ¬ stOn (wo ((k + i) % 16)) x y
def flB (k n x y : Int) : Prop := ∃ i : Int, (n ≤ i ∧ i < 15) ∧ ¬ ins ((k + i) % 16) ((k + i + 1) % 16) x y
def flR (k n x y r : Int) : Prop := (flA k n x y ∧ r = -1) ∨ (¬ flA k n x y ∧ flB k n x y ∧ r = -3) ∨ (¬ flA k n x y ∧ ¬ flB k n x y ∧ ins ((k + 15) % 16) ((k + n) % 16) x y ∧ r = -2) ∨
  (¬ flA k n x y ∧ ¬ flB k n x y ∧ ¬ ins ((k + 15) % 16) ((k + n) % 16) x y ∧ isFar (zsv1 ((k + n) % 16) - zsv1 ((k + 15) % 16)) (zsv0 ((k + 15) % 16) - zsv0 ((k + n) % 16)) r)
theorem flR_u {k n x y r r' : Int} (h : flR k n x y r) (h' : flR k n x y r') : r = r' := by
  rcases h with ⟨a, h⟩ | ⟨a, b, h⟩ | ⟨a, b, c, h⟩ | ⟨a, b, c, h⟩ <;> rcases h' with ⟨a', h'⟩ | ⟨a', b', h'⟩ | ⟨a', b', c', h'⟩ | ⟨a', b', c', h'⟩ <;> first | omega | exact isFar_u h h' | exact absurd a a' | exact absurd a' a | exact absurd b b' | exact absurd b' b | exact absurd c c' | exact absurd c' c
theorem flR_b {k n x y r : Int} (h : flR k n x y r) : -3 ≤ r ∧ r < 16 := by
  rcases h with ⟨_, h⟩ | ⟨_, _, h⟩ | ⟨_, _, _, h⟩ | ⟨_, _, _, h⟩ <;> first | omega | (have := h.1; omega)
def fewP (f t x y m : Int) : Prop := (16 ≤ m ∧ m < 208) ∧ ∃ v, flR (m % 16) (m / 16) x y v ∧ 0 ≤ v ∧ (v - f) % 16 ≤ (t - f) % 16
theorem zsum0 {f : Nat → Int} (n : Nat) (h : ∀ k, k < n → f k = 0) : zsum n f = 0 := by
  induction n with
  | zero => rfl
  | succ n ih => simp only [zsum]; rw [ih (fun k hk => h k (by omega)), h n (by omega)]; rfl
set_option maxRecDepth 100000 in
set_option maxHeartbeats 4000000 in
theorem s_isInside {l : Launch} {w : zW} {S : zS} {a b : Int} (a0 : 0 ≤ a) (a1 : a < 16) (b0 : 0 ≤ b) (b1 : b < 16) {x y : Int} (hC : okC x y)  : zSp l mX1_isInside false 1 0 0 [zI a, zI b, zI x, zI y] S w (zRt (some (zI (if ins a b x y then 1 else 0))) S w) zNo := by
  refine zA_intro ⟨plainFor_of_name (by decide +kernel), Or.inl (by decide +kernel)⟩ rfl (Nat.le_of_ble_eq_true rfl) ?_
  have ha := zsv_b a0 a1
  have hb := zsv_b b0 b1
  obtain ⟨⟨hx1, hx2⟩, hy1, hy2⟩ := id hC
  have m1 := zmulA (x := zsv0 b - zsv0 a) (y := y - zsv1 a) (A := 200) (B := 200) (by omega) (by omega) (by omega) (by omega)
  have m2 := zmulA (x := zsv1 b - zsv1 a) (y := x - zsv0 a) (A := 200) (B := 200) (by omega) (by omega) (by omega) (by omega)
  have hB : inR ((zsv0 b - zsv0 a) * (y - zsv1 a) - (zsv1 b - zsv1 a) * (x - zsv0 a)) := inR_mk (by omega) (by omega)
  refine zA_range (fun hr => ?_)
  show zA l mX1_isInside false 1 0 0 (zRt (some (zI (if ins a b x y then 1 else 0))) S w) zNo 0 [zI a, zI b, zI x, zI y] [] S w
  refine zA_gets (q := zst0) dX1_isInside_0 zst0_in gX1_11 ?_
  refine zA_iload_n dX1_isInside_3 rfl ?_
  refine zA_sload (q := zst0) dX1_isInside_4 zst0_in rfl (by first | assumption | omega) (by first | assumption | (show _ < (16 : Int); omega)) (by decide) ?_
  refine zA_gets (q := zst0) dX1_isInside_5 zst0_in gX1_11 ?_
  refine zA_iload_n dX1_isInside_8 rfl ?_
  refine zA_sload (q := zst0) dX1_isInside_9 zst0_in rfl (by first | assumption | omega) (by first | assumption | (show _ < (16 : Int); omega)) (by decide) ?_
  refine zA_isub dX1_isInside_10 ?_
  refine zA_iload_n dX1_isInside_11 rfl ?_
  refine zA_gets (q := zst1) dX1_isInside_12 zst1_in gX1_15 ?_
  refine zA_iload_n dX1_isInside_15 rfl ?_
  refine zA_sload (q := zst1) dX1_isInside_16 zst1_in rfl (by first | assumption | omega) (by first | assumption | (show _ < (16 : Int); omega)) (by decide) ?_
  refine zA_isub dX1_isInside_17 ?_
  refine zA_imul dX1_isInside_18 ?_
  refine zA_gets (q := zst1) dX1_isInside_19 zst1_in gX1_15 ?_
  refine zA_iload_n dX1_isInside_22 rfl ?_
  refine zA_sload (q := zst1) dX1_isInside_23 zst1_in rfl (by first | assumption | omega) (by first | assumption | (show _ < (16 : Int); omega)) (by decide) ?_
  refine zA_gets (q := zst1) dX1_isInside_24 zst1_in gX1_15 ?_
  refine zA_iload_n dX1_isInside_27 rfl ?_
  refine zA_sload (q := zst1) dX1_isInside_28 zst1_in rfl (by first | assumption | omega) (by first | assumption | (show _ < (16 : Int); omega)) (by decide) ?_
  refine zA_isub dX1_isInside_29 ?_
  refine zA_iload_n dX1_isInside_30 rfl ?_
  refine zA_gets (q := zst0) dX1_isInside_31 zst0_in gX1_11 ?_
  refine zA_iload_n dX1_isInside_34 rfl ?_
  refine zA_sload (q := zst0) dX1_isInside_35 zst0_in rfl (by first | assumption | omega) (by first | assumption | (show _ < (16 : Int); omega)) (by decide) ?_
  refine zA_isub dX1_isInside_36 ?_
  refine zA_imul dX1_isInside_37 ?_
  refine zA_isub dX1_isInside_38 ?_
  refine zA_if_le (tgt := 46) dX1_isInside_39 (by decide) (by first | assumption | exact hr _ _ | exact inR_mk (by omega) (by omega)) (fun c39 => ?_) (fun c39 => ?_)
  · skip
    refine zA_iconst dX1_isInside_46 ?_
    refine zA_zret dX1_isInside_47 rfl (Or.inl rfl) ?_
    exact zRt_i (by first | rw [if_pos c39] | rw [if_neg (Int.not_lt.mpr c39)])
  · skip
    refine zA_iconst dX1_isInside_42 ?_
    refine zA_goto (tgt := 47) dX1_isInside_43 (by decide) ?_
    refine zA_zret dX1_isInside_47 rfl (Or.inr rfl) ?_
    exact zRt_i (by first | rw [if_pos c39] | rw [if_neg (Int.not_lt.mpr c39)])

set_option maxRecDepth 100000 in
set_option maxHeartbeats 4000000 in
theorem s_holds {l : Launch} {t dr tx : Nat} {w : zW} {s : Int} (s0 : 0 ≤ s) (s1 : s < 65536) {x y : Int} (hC : okC x y)  : zSp l mX1_holds false 2 0 0 [zI s, zI x, zI y] (ZZ t dr tx) w (zRp1 (isB (stOn s x y)) (ZZ t dr tx) w) zNo := by
  refine zA_intro ⟨plainFor_of_name (by decide +kernel), Or.inl (by decide +kernel)⟩ rfl (Nat.le_of_ble_eq_true rfl) ?_
  refine zA_range (fun hr => ?_)
  show zA l mX1_holds false 2 0 0 (zRp1 (isB (stOn s x y)) (ZZ t dr tx) w) zNo 0 [zI s, zI x, zI y, .null, .null, .null, .null] [] (ZZ t dr tx) w
  refine zA_iconst dX1_holds_0 ?_
  refine zA_istore_n (lo1 := [zI s, zI x, zI y, zI (-1), .null, .null, .null]) dX1_holds_1 (by decide) rfl rfl ?_
  refine zA_iconst dX1_holds_2 ?_
  refine zA_istore (lo1 := [zI s, zI x, zI y, zI (-1), zI (-1), .null, .null]) dX1_holds_3 (by decide) rfl rfl ?_
  refine zA_iconst dX1_holds_5 ?_
  refine zA_istore (lo1 := [zI s, zI x, zI y, zI (-1), zI (-1), zI 0, .null]) dX1_holds_6 (by decide) rfl rfl ?_
  refine zA_iconst dX1_holds_8 ?_
  refine zA_istore (lo1 := [zI s, zI x, zI y, zI (-1), zI (-1), zI 0, zI 0]) dX1_holds_9 (by decide) rfl rfl ?_
  have L11 : ∀ (z11 : Nat) (f l0 m k : Int) (k0 : 0 ≤ k) (k1 : k ≤ 16) (hm : m = zsum k.toNat (fun j => if tb s j = true then 1 else 0)) (hfl : (l0 = -1 ∧ f = -1 ∧ ∀ j, 0 ≤ j → j < k → tb s j = false) ∨ ((0 ≤ f ∧ f ≤ l0 ∧ l0 < k) ∧ tb s f = true ∧ tb s l0 = true ∧ (∀ j, 0 ≤ j → j < f → tb s j = false) ∧ ∀ j, l0 < j → j < k → tb s j = false)) (hp : ∀ a b, 0 ≤ a → a < b → b < k → tb s a = true → tb s b = true → (∀ j, a < j → j < b → tb s j = false) → ins a b x y) (zm : (16 - k).toNat < z11), zA l mX1_holds false 2 0 0 (zRp1 (isB (stOn s x y)) (ZZ t dr tx) w) zNo 11 [zI s, zI x, zI y, zI f, zI l0, zI m, zI k] [] (ZZ t dr tx) w := by
    intro z11
    induction z11 with
    | zero => intro f l0 m k k0 k1 hm hfl hp zm; exact absurd zm (Nat.not_lt_zero _)
    | succ z11 ih11 =>
      intro f l0 m k k0 k1 hm hfl hp zm
      refine zA_iload dX1_holds_11 rfl ?_
      refine zA_bipush dX1_holds_13 rfl ?_
      refine zA_icmp_ge (tgt := 72) dX1_holds_15 (by decide) (by first | assumption | exact hr _ _ | exact inR_mk (by omega) (by omega)) ⟨by decide, by decide⟩ (fun c15 => ?_) (fun c15 => ?_)
      · skip
        have e16 : k = 16 := by omega
        rw [e16] at hm hfl hp
        have hpc : m = popc s := hm
        have hpb := popc_b s
        refine zA_iload dX1_holds_72 rfl ?_
        refine zA_iconst dX1_holds_74 ?_
        refine zA_icmp_lt (tgt := 93) dX1_holds_75 (by decide) (by first | assumption | exact hr _ _ | exact inR_mk (by omega) (by omega)) ⟨by decide, by decide⟩ (fun c75 => ?_) (fun c75 => ?_)
        · skip
          refine zA_iconst dX1_holds_93 ?_
          refine zA_zret dX1_holds_94 rfl (Or.inl rfl) ?_
          refine ⟨⟨_, rfl, Or.inr ⟨rfl, fun h => ?_⟩⟩, rfl, rfl⟩
          first
          | (have := h.1; omega)
          | exact c86 (h.2 l0 f (by omega) (by omega) (by omega) (by omega) g3 ⟨g2, Or.inr ⟨by omega, g5, g4⟩⟩)
        · skip
          have hfl2 : (0 ≤ f ∧ f ≤ l0 ∧ l0 < 16) ∧ tb s f = true ∧ tb s l0 = true ∧ (∀ j, 0 ≤ j → j < f → tb s j = false) ∧ ∀ j, l0 < j → j < 16 → tb s j = false := by
            rcases hfl with ⟨h1, h2, h3⟩ | h
            · exfalso
              have : popc s = 0 := zsum0 16 (fun j hj => by rw [h3 j (by omega) (by omega)]; rfl)
              omega
            · exact h
          obtain ⟨g1, g2, g3, g4, g5⟩ := hfl2
          refine zA_iload dX1_holds_78 rfl ?_
          refine zA_iload_n dX1_holds_80 rfl ?_
          refine zA_iload_n dX1_holds_81 rfl ?_
          refine zA_iload_n dX1_holds_82 rfl ?_
          refine zA_cS (st := []) dX1_holds_83 sX1_isInside kX1_18 (s_isInside (w := w) (S := (ZZ t dr tx)) (a := l0) (b := f) (x := x) (y := y) (by omega) (by omega) (by omega) (by omega) hC) (by decide) rfl rfl (Nat.le_of_ble_eq_true rfl) (zRt_el ?_)
          show zA l mX1_holds false 2 0 0 (zRp1 (isB (stOn s x y)) (ZZ t dr tx) w) zNo 86 [zI s, zI x, zI y, zI f, zI l0, zI m, zI k] [zI (if ins l0 f x y then 1 else 0)] (ZZ t dr tx) w
          refine zA_if_eq (tgt := 93) dX1_holds_86 (by decide) (inR_ite _) (fun c86 => ?_) (fun c86 => ?_)
          · skip
            replace c86 := zite_eq c86
            refine zA_iconst dX1_holds_93 ?_
            refine zA_zret dX1_holds_94 rfl (Or.inl rfl) ?_
            refine ⟨⟨_, rfl, Or.inr ⟨rfl, fun h => ?_⟩⟩, rfl, rfl⟩
            first
            | (have := h.1; omega)
            | exact c86 (h.2 l0 f (by omega) (by omega) (by omega) (by omega) g3 ⟨g2, Or.inr ⟨by omega, g5, g4⟩⟩)
          · skip
            replace c86 := zite_ne c86
            refine zA_iconst dX1_holds_89 ?_
            refine zA_goto (tgt := 94) dX1_holds_90 (by decide) ?_
            refine zA_zret dX1_holds_94 rfl (Or.inr rfl) ?_
            refine ⟨⟨_, rfl, Or.inl ⟨rfl, by omega, fun a b a0 a1 b0 b1 ta hx => ?_⟩⟩, rfl, rfl⟩
            rcases hx.2 with ⟨q1, q2⟩ | ⟨q1, q2, q3⟩
            · exact hp a b a0 q1 b1 ta hx.1 q2
            · have e1 : a = l0 := by
                rcases Int.lt_trichotomy a l0 with q | q | q
                · rw [q2 l0 q (by omega)] at g3; cases g3
                · exact q
                · rw [g5 a q a1] at ta; cases ta
              have e2 : b = f := by
                rcases Int.lt_trichotomy b f with q | q | q
                · have := hx.1; rw [g4 b b0 q] at this; cases this
                · exact q
                · rw [q3 f (by omega) q] at g2; cases g2
              rw [e1, e2]; exact c86
      · skip
        have hmb : 0 ≤ zsum k.toNat (fun j => if tb s j = true then 1 else 0) ∧ zsum k.toNat (fun j => if tb s j = true then 1 else 0) ≤ k.toNat * 1 := zsum_b _ (fun j hj => by split <;> omega)
        have hl16 : -1 ≤ l0 ∧ l0 < 16 ∧ -1 ≤ f ∧ f < 16 := by
          rcases hfl with ⟨h1, h2, h3⟩ | ⟨h1, h2, h3, h4, h5⟩ <;> omega
        refine zA_iload_n dX1_holds_18 rfl ?_
        refine zA_iload dX1_holds_19 rfl ?_
        refine zA_ishr dX1_holds_21 ?_
        refine zA_iconst dX1_holds_22 ?_
        refine zA_iand dX1_holds_23 ?_
        refine zA_valI (if tb s k = true then 1 else 0) (tb_get s0 (by omega) k0 (by omega)) ?_
        refine zA_if_eq (tgt := 66) dX1_holds_24 (by decide) (inR_ite _) (fun c24 => ?_) (fun c24 => ?_)
        · skip
          replace c24 := zite_eq c24
          refine zA_iinc (lo1 := [zI s, zI x, zI y, zI f, zI l0, zI m, zI (k + 1)]) dX1_holds_66 rfl (by decide) rfl rfl ?_
          refine zA_goto (tgt := 11) dX1_holds_69 (by decide) ?_
          exact ih11 _ _ _ (k + 1) (by omega) (by omega) (by rw [zsucc k0]; simp only [zsum]; rw [zcast k0, if_neg c24, hm]; omega) (by
                      have c24 : tb s k = false := by simpa using c24
                      rcases hfl with ⟨h1, h2, h3⟩ | ⟨h1, h2, h3, h4, h5⟩
                      · exact Or.inl ⟨h1, h2, fun j a b => by
                          by_cases hj : j = k
                          · rw [hj]; exact c24
                          · exact h3 j a (by omega)⟩
                      · exact Or.inr ⟨by omega, h2, h3, h4, fun j a b => by
                          by_cases hj : j = k
                          · rw [hj]; exact c24
                          · exact h5 j a (by omega)⟩) (fun a b a0 ab bk ta tb2 hj => hp a b a0 ab (by
                      by_cases hb : b = k
                      · exfalso; rw [hb] at tb2; exact c24 tb2
                      · omega) ta tb2 hj) (by omega)
        · skip
          replace c24 := zite_ne c24
          have L47 : ∀  (hj2 : l0 = -1 ∨ ins l0 k x y), zA l mX1_holds false 2 0 0 (zRp1 (isB (stOn s x y)) (ZZ t dr tx) w) zNo 47 [zI s, zI x, zI y, zI f, zI l0, zI m, zI k] [] (ZZ t dr tx) w := by
            intro  hj2
            refine zA_iload_n dX1_holds_47 rfl ?_
            refine zA_iconst dX1_holds_48 ?_
            refine zA_icmp_ne (tgt := 57) dX1_holds_49 (by decide) (by first | assumption | exact hr _ _ | exact inR_mk (by omega) (by omega)) ⟨by decide, by decide⟩ (fun c49 => ?_) (fun c49 => ?_)
            · skip
              refine zA_iload_n dX1_holds_57 rfl ?_
              refine zA_istore_n (lo1 := [zI s, zI x, zI y, zI f, zI l0, zI m, zI k]) dX1_holds_58 (by decide) rfl rfl ?_
              refine zA_iload dX1_holds_59 rfl ?_
              refine zA_istore (lo1 := [zI s, zI x, zI y, zI f, zI k, zI m, zI k]) dX1_holds_61 (by decide) rfl rfl ?_
              refine zA_iinc (lo1 := [zI s, zI x, zI y, zI f, zI k, zI (m + 1), zI k]) dX1_holds_63 rfl (by decide) rfl rfl ?_
              refine zA_iinc (lo1 := [zI s, zI x, zI y, zI f, zI k, zI (m + 1), zI (k + 1)]) dX1_holds_66 rfl (by decide) rfl rfl ?_
              refine zA_goto (tgt := 11) dX1_holds_69 (by decide) ?_
              exact ih11 _ _ _ (k + 1) (by omega) (by omega) (by rw [zsucc k0]; simp only [zsum]; rw [zcast k0, if_pos c24, hm]) (by
                          rcases hfl with ⟨h1, h2, h3⟩ | ⟨h1, h2, h3, h4, h5⟩
                          · first
                            | exact Or.inr ⟨by omega, c24, c24, h3, fun j a b => by omega⟩
                            | omega
                          · first
                            | exact Or.inr ⟨by omega, h2, c24, h4, fun j a b => by omega⟩
                            | omega) (fun a b a0 ab bk ta tb2 hj => by
                          by_cases hb : b = k
                          · subst hb
                            rcases hfl with ⟨h1, h2, h3⟩ | ⟨h1, h2, h3, h4, h5⟩
                            · rw [h3 a a0 ab] at ta; cases ta
                            · have e : a = l0 := by
                                rcases Int.lt_trichotomy a l0 with q | q | q
                                · rw [hj l0 q (by omega)] at h3; cases h3
                                · exact q
                                · rw [h5 a q ab] at ta; cases ta
                              rcases hj2 with q | q
                              · omega
                              · rw [e]; exact q
                          · exact hp a b a0 ab (by omega) ta tb2 hj) (by omega)
            · skip
              refine zA_iload dX1_holds_52 rfl ?_
              refine zA_goto (tgt := 58) dX1_holds_54 (by decide) ?_
              refine zA_istore_n (lo1 := [zI s, zI x, zI y, zI k, zI l0, zI m, zI k]) dX1_holds_58 (by decide) rfl rfl ?_
              refine zA_iload dX1_holds_59 rfl ?_
              refine zA_istore (lo1 := [zI s, zI x, zI y, zI k, zI k, zI m, zI k]) dX1_holds_61 (by decide) rfl rfl ?_
              refine zA_iinc (lo1 := [zI s, zI x, zI y, zI k, zI k, zI (m + 1), zI k]) dX1_holds_63 rfl (by decide) rfl rfl ?_
              refine zA_iinc (lo1 := [zI s, zI x, zI y, zI k, zI k, zI (m + 1), zI (k + 1)]) dX1_holds_66 rfl (by decide) rfl rfl ?_
              refine zA_goto (tgt := 11) dX1_holds_69 (by decide) ?_
              exact ih11 _ _ _ (k + 1) (by omega) (by omega) (by rw [zsucc k0]; simp only [zsum]; rw [zcast k0, if_pos c24, hm]) (by
                          rcases hfl with ⟨h1, h2, h3⟩ | ⟨h1, h2, h3, h4, h5⟩
                          · first
                            | exact Or.inr ⟨by omega, c24, c24, h3, fun j a b => by omega⟩
                            | omega
                          · first
                            | exact Or.inr ⟨by omega, h2, c24, h4, fun j a b => by omega⟩
                            | omega) (fun a b a0 ab bk ta tb2 hj => by
                          by_cases hb : b = k
                          · subst hb
                            rcases hfl with ⟨h1, h2, h3⟩ | ⟨h1, h2, h3, h4, h5⟩
                            · rw [h3 a a0 ab] at ta; cases ta
                            · have e : a = l0 := by
                                rcases Int.lt_trichotomy a l0 with q | q | q
                                · rw [hj l0 q (by omega)] at h3; cases h3
                                · exact q
                                · rw [h5 a q ab] at ta; cases ta
                              rcases hj2 with q | q
                              · omega
                              · rw [e]; exact q
                          · exact hp a b a0 ab (by omega) ta tb2 hj) (by omega)
          refine zA_iload dX1_holds_27 rfl ?_
          refine zA_iconst dX1_holds_29 ?_
          refine zA_icmp_eq (tgt := 47) dX1_holds_30 (by decide) (by first | assumption | exact hr _ _ | exact inR_mk (by omega) (by omega)) ⟨by decide, by decide⟩ (fun c30 => ?_) (fun c30 => ?_)
          · skip
            exact L47 (by first | exact Or.inl c30 | exact Or.inr c42)
          · skip
            refine zA_iload dX1_holds_33 rfl ?_
            refine zA_iload dX1_holds_35 rfl ?_
            refine zA_iload_n dX1_holds_37 rfl ?_
            refine zA_iload_n dX1_holds_38 rfl ?_
            refine zA_cS (st := []) dX1_holds_39 sX1_isInside kX1_18 (s_isInside (w := w) (S := (ZZ t dr tx)) (a := l0) (b := k) (x := x) (y := y) (by omega) (by omega) (by omega) (by omega) hC) (by decide) rfl rfl (Nat.le_of_ble_eq_true rfl) (zRt_el ?_)
            show zA l mX1_holds false 2 0 0 (zRp1 (isB (stOn s x y)) (ZZ t dr tx) w) zNo 42 [zI s, zI x, zI y, zI f, zI l0, zI m, zI k] [zI (if ins l0 k x y then 1 else 0)] (ZZ t dr tx) w
            refine zA_if_ne (tgt := 47) dX1_holds_42 (by decide) (inR_ite _) (fun c42 => ?_) (fun c42 => ?_)
            · skip
              replace c42 := zite_ne c42
              exact L47 (by first | exact Or.inl c30 | exact Or.inr c42)
            · skip
              replace c42 := zite_eq c42
              refine zA_iconst dX1_holds_45 ?_
              refine zA_zret dX1_holds_46 rfl (Or.inl rfl) ?_
              refine ⟨⟨_, rfl, Or.inr ⟨rfl, fun h => ?_⟩⟩, rfl, rfl⟩
              rcases hfl with ⟨h1, h2, h3⟩ | ⟨h1, h2, h3, h4, h5⟩
              · omega
              · exact c42 (h.2 l0 k (by omega) (by omega) (by omega) (by omega) h3 ⟨c24, Or.inl ⟨by omega, fun j a b => h5 j a b⟩⟩)
  exact L11 _ (-1) (-1) 0 0 (by omega) (by omega) rfl (Or.inl ⟨rfl, rfl, fun j a b => by omega⟩) (fun a b a0 ab bk => by omega) (Nat.lt_succ_self _)

set_option maxRecDepth 100000 in
set_option maxHeartbeats 4000000 in
theorem s_spare {l : Launch} {t dr tx : Nat} {w : zW} {x y : Int} (hC : okC x y)  : zSp l mX1_spare false 3 0 0 [zI x, zI y] (ZZ t dr tx) w (zRp1 (isSpare x y) (ZZ t dr tx) w) zNo := by
  refine zA_intro ⟨plainFor_of_name (by decide +kernel), Or.inl (by decide +kernel)⟩ rfl (Nat.le_of_ble_eq_true rfl) ?_
  refine zA_range (fun hr => ?_)
  show zA l mX1_spare false 3 0 0 (zRp1 (isSpare x y) (ZZ t dr tx) w) zNo 0 [zI x, zI y, .null, .null] [] (ZZ t dr tx) w
  refine zA_iconst dX1_spare_0 ?_
  refine zA_istore_n (lo1 := [zI x, zI y, zI 0, .null]) dX1_spare_1 (by decide) rfl rfl ?_
  refine zA_iconst dX1_spare_2 ?_
  refine zA_istore_n (lo1 := [zI x, zI y, zI 0, zI 0]) dX1_spare_3 (by decide) rfl rfl ?_
  have L4 : ∀ (z4 : Nat) (r k : Int) (k0 : 0 ≤ k) (k1 : k ≤ 16) (r0 : 0 ≤ r) (r1 : r < 65536) (hs : ∀ b : Int, 0 ≤ b → b < 16 → (tb r b = true ↔ b < k ∧ stOn (wo b) x y)) (zm : (16 - k).toNat < z4), zA l mX1_spare false 3 0 0 (zRp1 (isSpare x y) (ZZ t dr tx) w) zNo 4 [zI x, zI y, zI r, zI k] [] (ZZ t dr tx) w := by
    intro z4
    induction z4 with
    | zero => intro r k k0 k1 r0 r1 hs zm; exact absurd zm (Nat.not_lt_zero _)
    | succ z4 ih4 =>
      intro r k k0 k1 r0 r1 hs zm
      refine zA_iload_n dX1_spare_4 rfl ?_
      refine zA_bipush dX1_spare_5 rfl ?_
      refine zA_icmp_ge (tgt := 38) dX1_spare_7 (by decide) (by first | assumption | exact hr _ _ | exact inR_mk (by omega) (by omega)) ⟨by decide, by decide⟩ (fun c7 => ?_) (fun c7 => ?_)
      · skip
        refine zA_iload_n dX1_spare_38 rfl ?_
        refine zA_iret dX1_spare_39 rfl ?_
        refine ⟨⟨_, rfl, ⟨r0, r1⟩, fun b a c => ?_⟩, rfl, rfl⟩
        rw [hs b a c]
        exact ⟨fun h => h.2, fun h => ⟨by omega, h⟩⟩
      · skip
        refine zA_ldc dX1_spare_10 qX1_22 ?_
        refine zA_iconst dX1_spare_12 ?_
        refine zA_iload_n dX1_spare_13 rfl ?_
        refine zA_ishl dX1_spare_14 ?_
        refine zA_iconst dX1_spare_15 ?_
        refine zA_ixor dX1_spare_16 ?_
        refine zA_iand dX1_spare_17 ?_
        refine zA_iload_n dX1_spare_18 rfl ?_
        refine zA_iload_n dX1_spare_19 rfl ?_
        refine zA_cS (st := []) dX1_spare_20 sX1_holds kX1_23 (s_holds (w := w) (s := wo k) (x := x) (y := y) (wo_b k0 (by omega)).1 (wo_b k0 (by omega)).2 hC) (by decide) rfl rfl (Nat.le_of_ble_eq_true rfl) (zRp1_el (fun r_1 hr_1 => ?_))
        have hrr := isB_R hr_1
        refine zA_if_eq (tgt := 32) dX1_spare_23 (by decide) (by first | assumption | exact hr _ _ | exact inR_mk (by omega) (by omega)) (fun c23 => ?_) (fun c23 => ?_)
        · skip
          refine zA_iinc (lo1 := [zI x, zI y, zI r, zI (k + 1)]) dX1_spare_32 rfl (by decide) rfl rfl ?_
          refine zA_goto (tgt := 4) dX1_spare_35 (by decide) ?_
          exact ih4 _ (k + 1) (by omega) (by omega) r0 r1 (fun b a c => by
                      rw [hs b a c]
                      constructor
                      · rintro ⟨h1, h2⟩
                        exact ⟨by omega, h2⟩
                      · rintro ⟨h1, h2⟩
                        by_cases hb : b = k
                        · rw [hb] at h2; exact absurd h2 (isB_eq hr_1 c23)
                        · exact ⟨by omega, h2⟩) (by omega)
        · skip
          have ho := tb_or (x := r) (i := k) r0 (by omega) k0 (by omega)
          have ho3 := tb_lt16 ho.1.1 (fun j hj => by rw [ho.2 j (by omega), tb_hi16 r1 hj]; simp; omega)
          refine zA_iload_n dX1_spare_26 rfl ?_
          refine zA_iconst dX1_spare_27 ?_
          refine zA_iload_n dX1_spare_28 rfl ?_
          refine zA_ishl dX1_spare_29 ?_
          refine zA_ior dX1_spare_30 ?_
          refine zA_istore_n (lo1 := [zI x, zI y, zI (iOr r (iShl 1 k)), zI k]) dX1_spare_31 (by decide) rfl rfl ?_
          refine zA_iinc (lo1 := [zI x, zI y, zI (iOr r (iShl 1 k)), zI (k + 1)]) dX1_spare_32 rfl (by decide) rfl rfl ?_
          refine zA_goto (tgt := 4) dX1_spare_35 (by decide) ?_
          exact ih4 _ (k + 1) (by omega) (by omega) ho.1.1 ho3 (fun b a c => by
                      rw [ho.2 b a, Bool.or_eq_true, hs b a c, decide_eq_true_iff]
                      constructor
                      · rintro (⟨h1, h2⟩ | h)
                        · exact ⟨by omega, h2⟩
                        · rw [h]; exact ⟨by omega, isB_ne hr_1 c23⟩
                      · rintro ⟨h1, h2⟩
                        by_cases hb : b = k
                        · exact Or.inr hb
                        · exact Or.inl ⟨by omega, h2⟩) (by omega)
  exact L4 _ 0 0 (by omega) (by omega) (by omega) (by omega) (fun b a c => by rw [tb_0]; exact ⟨fun h => (by cases h), fun h => by omega⟩) (Nat.lt_succ_self _)

theorem farV_b {p q j : Int} (hp0 : -200 ≤ p) (hp1 : p ≤ 200) (hq0 : -200 ≤ q) (hq1 : q ≤ 200) (h0 : 0 ≤ j) (h1 : j < 16) : inR (zsv0 j * p + zsv1 j * q) := by
  have h := zsv_b h0 h1
  have m1 := zmulA (x := zsv0 j) (y := p) (A := 100) (B := 200) (by omega) (by omega) (by omega) (by omega)
  have m2 := zmulA (x := zsv1 j) (y := q) (A := 100) (B := 200) (by omega) (by omega) (by omega) (by omega)
  exact inR_mk (by omega) (by omega)
set_option maxRecDepth 100000 in
set_option maxHeartbeats 4000000 in
theorem s_furthest {l : Launch} {w : zW} {S : zS} {p q : Int} (hp0 : -200 ≤ p) (hp1 : p ≤ 200) (hq0 : -200 ≤ q) (hq1 : q ≤ 200)  : zSp l mX1_furthest false 1 0 0 [zI p, zI q] S w (zRp1 (isFar p q) S w) zNo := by
  refine zA_intro ⟨plainFor_of_name (by decide +kernel), Or.inl (by decide +kernel)⟩ rfl (Nat.le_of_ble_eq_true rfl) ?_
  refine zA_range (fun hr => ?_)
  show zA l mX1_furthest false 1 0 0 (zRp1 (isFar p q) S w) zNo 0 [zI p, zI q, .null, .null] [] S w
  refine zA_iconst dX1_furthest_0 ?_
  refine zA_istore_n (lo1 := [zI p, zI q, zI 0, .null]) dX1_furthest_1 (by decide) rfl rfl ?_
  refine zA_iconst dX1_furthest_2 ?_
  refine zA_istore_n (lo1 := [zI p, zI q, zI 0, zI 1]) dX1_furthest_3 (by decide) rfl rfl ?_
  have L4 : ∀ (z4 : Nat) (r k : Int) (k0 : 1 ≤ k) (k1 : k ≤ 16) (r0 : 0 ≤ r) (r1 : r < k) (h2 : ∀ j, 0 ≤ j → j < r → farV p q j < farV p q r) (h3 : ∀ j, r < j → j < k → farV p q j ≤ farV p q r) (zm : (16 - k).toNat < z4), zA l mX1_furthest false 1 0 0 (zRp1 (isFar p q) S w) zNo 4 [zI p, zI q, zI r, zI k] [] S w := by
    intro z4
    induction z4 with
    | zero => intro r k k0 k1 r0 r1 h2 h3 zm; exact absurd zm (Nat.not_lt_zero _)
    | succ z4 ih4 =>
      intro r k k0 k1 r0 r1 h2 h3 zm
      refine zA_iload_n dX1_furthest_4 rfl ?_
      refine zA_bipush dX1_furthest_5 rfl ?_
      refine zA_icmp_ge (tgt := 51) dX1_furthest_7 (by decide) (by first | assumption | exact hr _ _ | exact inR_mk (by omega) (by omega)) ⟨by decide, by decide⟩ (fun c7 => ?_) (fun c7 => ?_)
      · skip
        refine zA_iload_n dX1_furthest_51 rfl ?_
        refine zA_iret dX1_furthest_52 rfl ?_
        exact ⟨⟨_, rfl, ⟨r0, by omega⟩, h2, fun j a b => h3 j a (by omega)⟩, rfl, rfl⟩
      · skip
        have hb1 := farV_b hp0 hp1 hq0 hq1 (show 0 ≤ k by omega) (show k < 16 by omega)
        have hb2 := farV_b hp0 hp1 hq0 hq1 r0 (show r < 16 by omega)
        refine zA_gets (q := zst0) dX1_furthest_10 zst0_in gX1_11 ?_
        refine zA_iload_n dX1_furthest_13 rfl ?_
        refine zA_sload (q := zst0) dX1_furthest_14 zst0_in rfl (by first | assumption | omega) (by first | assumption | (show _ < (16 : Int); omega)) (by decide) ?_
        refine zA_iload_n dX1_furthest_15 rfl ?_
        refine zA_imul dX1_furthest_16 ?_
        refine zA_gets (q := zst1) dX1_furthest_17 zst1_in gX1_15 ?_
        refine zA_iload_n dX1_furthest_20 rfl ?_
        refine zA_sload (q := zst1) dX1_furthest_21 zst1_in rfl (by first | assumption | omega) (by first | assumption | (show _ < (16 : Int); omega)) (by decide) ?_
        refine zA_iload_n dX1_furthest_22 rfl ?_
        refine zA_imul dX1_furthest_23 ?_
        refine zA_iadd dX1_furthest_24 ?_
        refine zA_gets (q := zst0) dX1_furthest_25 zst0_in gX1_11 ?_
        refine zA_iload_n dX1_furthest_28 rfl ?_
        refine zA_sload (q := zst0) dX1_furthest_29 zst0_in rfl (by first | assumption | omega) (by first | assumption | (show _ < (16 : Int); omega)) (by decide) ?_
        refine zA_iload_n dX1_furthest_30 rfl ?_
        refine zA_imul dX1_furthest_31 ?_
        refine zA_gets (q := zst1) dX1_furthest_32 zst1_in gX1_15 ?_
        refine zA_iload_n dX1_furthest_35 rfl ?_
        refine zA_sload (q := zst1) dX1_furthest_36 zst1_in rfl (by first | assumption | omega) (by first | assumption | (show _ < (16 : Int); omega)) (by decide) ?_
        refine zA_iload_n dX1_furthest_37 rfl ?_
        refine zA_imul dX1_furthest_38 ?_
        refine zA_iadd dX1_furthest_39 ?_
        refine zA_icmp_le (tgt := 45) dX1_furthest_40 (by decide) (by first | assumption | exact hr _ _ | exact inR_mk (by omega) (by omega)) (by first | assumption | exact hr _ _ | exact inR_mk (by omega) (by omega)) (fun c40 => ?_) (fun c40 => ?_)
        · skip
          refine zA_iinc (lo1 := [zI p, zI q, zI r, zI (k + 1)]) dX1_furthest_45 rfl (by decide) rfl rfl ?_
          refine zA_goto (tgt := 4) dX1_furthest_48 (by decide) ?_
          exact ih4 _ (k + 1) (by omega) (by omega) (by omega) (by omega) (fun j a b => h2 j a b) (fun j a b => by
                      by_cases hj : j = k
                      · rw [hj]; exact c40
                      · exact h3 j a (by omega)) (by omega)
        · skip
          refine zA_iload_n dX1_furthest_43 rfl ?_
          refine zA_istore_n (lo1 := [zI p, zI q, zI k, zI k]) dX1_furthest_44 (by decide) rfl rfl ?_
          refine zA_iinc (lo1 := [zI p, zI q, zI k, zI (k + 1)]) dX1_furthest_45 rfl (by decide) rfl rfl ?_
          refine zA_goto (tgt := 4) dX1_furthest_48 (by decide) ?_
          exact ih4 _ (k + 1) (by omega) (by omega) (by omega) (by omega) (fun j a b => by
                      have c40 : farV p q r < farV p q k := c40
                      rcases Int.lt_trichotomy j r with g | g | g
                      · have := h2 j a g; omega
                      · rw [g]; exact c40
                      · have := h3 j g b; omega) (fun j a b => by omega) (by omega)
  exact L4 _ 0 1 (by omega) (by omega) (by omega) (by omega) (fun j a b => by omega) (fun j a b => by omega) (Nat.lt_succ_self _)

set_option maxRecDepth 100000 in
set_option maxHeartbeats 4000000 in
theorem s_fallOf {l : Launch} {t dr tx : Nat} {w : zW} {x y : Int} (hC : okC x y) {k n s : Int} (k0 : 0 ≤ k) (k1 : k < 16) (n0 : 1 ≤ n) (n1 : n ≤ 12) (hs : isSpare x y s)  : zSp l mX1_fallOf false 3 0 0 [zI k, zI n, zI x, zI y, zI s] (ZZ t dr tx) w (zRp1 (flR k n x y) (ZZ t dr tx) w) zNo := by
  refine zA_intro ⟨plainFor_of_name (by decide +kernel), Or.inl (by decide +kernel)⟩ rfl (Nat.le_of_ble_eq_true rfl) ?_
  refine zA_range (fun hr => ?_)
  show zA l mX1_fallOf false 3 0 0 (zRp1 (flR k n x y) (ZZ t dr tx) w) zNo 0 [zI k, zI n, zI x, zI y, zI s, .null, .null] [] (ZZ t dr tx) w
  refine zA_iconst dX1_fallOf_0 ?_
  refine zA_istore (lo1 := [zI k, zI n, zI x, zI y, zI s, zI 0, .null]) dX1_fallOf_1 (by decide) rfl rfl ?_
  have L3 : ∀ (z3 : Nat) (i : Int) (i0 : 0 ≤ i) (i1 : i ≤ n) (hA : ∀ j : Int, 0 ≤ j → j < i → stOn (wo ((k + j) % 16)) x y) (zm : (n - i).toNat < z3), zA l mX1_fallOf false 3 0 0 (zRp1 (flR k n x y) (ZZ t dr tx) w) zNo 3 [zI k, zI n, zI x, zI y, zI s, zI i, .null] [] (ZZ t dr tx) w := by
    intro z3
    induction z3 with
    | zero => intro i i0 i1 hA zm; exact absurd zm (Nat.not_lt_zero _)
    | succ z3 ih3 =>
      intro i i0 i1 hA zm
      refine zA_iload dX1_fallOf_3 rfl ?_
      refine zA_iload_n dX1_fallOf_5 rfl ?_
      refine zA_icmp_ge (tgt := 32) dX1_fallOf_6 (by decide) (by first | assumption | exact hr _ _ | exact inR_mk (by omega) (by omega)) (by first | assumption | exact hr _ _ | exact inR_mk (by omega) (by omega)) (fun c6 => ?_) (fun c6 => ?_)
      · skip
        have nA : ¬ flA k n x y := fun ⟨j, ⟨a, b⟩, h⟩ => h (hA j a (by omega))
        refine zA_iload_n dX1_fallOf_32 rfl ?_
        refine zA_istore (lo1 := [zI k, zI n, zI x, zI y, zI s, zI n, .null]) dX1_fallOf_33 (by decide) rfl rfl ?_
        have L35 : ∀ (z35 : Nat) (i : Int) (i0 : n ≤ i) (i1 : i ≤ 15) (hB : ∀ j : Int, n ≤ j → j < i → ins ((k + j) % 16) ((k + j + 1) % 16) x y) (zm : (15 - i).toNat < z35), zA l mX1_fallOf false 3 0 0 (zRp1 (flR k n x y) (ZZ t dr tx) w) zNo 35 [zI k, zI n, zI x, zI y, zI s, zI i, .null] [] (ZZ t dr tx) w := by
          intro z35
          induction z35 with
          | zero => intro i i0 i1 hB zm; exact absurd zm (Nat.not_lt_zero _)
          | succ z35 ih35 =>
            intro i i0 i1 hB zm
            refine zA_iload dX1_fallOf_35 rfl ?_
            refine zA_bipush dX1_fallOf_37 rfl ?_
            refine zA_icmp_ge (tgt := 75) dX1_fallOf_39 (by decide) (by first | assumption | exact hr _ _ | exact inR_mk (by omega) (by omega)) ⟨by decide, by decide⟩ (fun c39 => ?_) (fun c39 => ?_)
            · skip
              have nB : ¬ flB k n x y := fun ⟨j, ⟨a, b⟩, h⟩ => h (hB j a (by omega))
              refine zA_iload_n dX1_fallOf_75 rfl ?_
              refine zA_bipush dX1_fallOf_76 rfl ?_
              refine zA_iadd dX1_fallOf_78 ?_
              refine zA_bipush dX1_fallOf_79 rfl ?_
              refine zA_iand dX1_fallOf_81 ?_
              refine zA_valI ((k + 15) % 16) (iAnd_15) ?_
              refine zA_istore (lo1 := [zI k, zI n, zI x, zI y, zI s, zI ((k + 15) % 16), .null]) dX1_fallOf_82 (by decide) rfl rfl ?_
              refine zA_iload_n dX1_fallOf_84 rfl ?_
              refine zA_iload_n dX1_fallOf_85 rfl ?_
              refine zA_iadd dX1_fallOf_86 ?_
              refine zA_bipush dX1_fallOf_87 rfl ?_
              refine zA_iand dX1_fallOf_89 ?_
              refine zA_valI ((k + n) % 16) (iAnd_15) ?_
              refine zA_istore (lo1 := [zI k, zI n, zI x, zI y, zI s, zI ((k + 15) % 16), zI ((k + n) % 16)]) dX1_fallOf_90 (by decide) rfl rfl ?_
              refine zA_iload dX1_fallOf_92 rfl ?_
              refine zA_iload dX1_fallOf_94 rfl ?_
              refine zA_iload_n dX1_fallOf_96 rfl ?_
              refine zA_iload_n dX1_fallOf_97 rfl ?_
              refine zA_cS (st := []) dX1_fallOf_98 sX1_isInside kX1_18 (s_isInside (w := w) (S := (ZZ t dr tx)) (a := ((k + 15) % 16)) (b := ((k + n) % 16)) (x := x) (y := y) (by omega) (by omega) (by omega) (by omega) hC) (by decide) rfl rfl (Nat.le_of_ble_eq_true rfl) (zRt_el ?_)
              show zA l mX1_fallOf false 3 0 0 (zRp1 (flR k n x y) (ZZ t dr tx) w) zNo 101 [zI k, zI n, zI x, zI y, zI s, zI ((k + 15) % 16), zI ((k + n) % 16)] [zI (if ins ((k + 15) % 16) ((k + n) % 16) x y then 1 else 0)] (ZZ t dr tx) w
              refine zA_if_eq (tgt := 109) dX1_fallOf_101 (by decide) (inR_ite _) (fun c101 => ?_) (fun c101 => ?_)
              · skip
                replace c101 := zite_eq c101
                have z1 := zsv_b (i := (k + 15) % 16) (by omega) (by omega)
                have z2 := zsv_b (i := (k + n) % 16) (by omega) (by omega)
                refine zA_gets (q := zst1) dX1_fallOf_109 zst1_in gX1_15 ?_
                refine zA_iload dX1_fallOf_112 rfl ?_
                refine zA_sload (q := zst1) dX1_fallOf_114 zst1_in rfl (by first | assumption | omega) (by first | assumption | (show _ < (16 : Int); omega)) (by decide) ?_
                refine zA_gets (q := zst1) dX1_fallOf_115 zst1_in gX1_15 ?_
                refine zA_iload dX1_fallOf_118 rfl ?_
                refine zA_sload (q := zst1) dX1_fallOf_120 zst1_in rfl (by first | assumption | omega) (by first | assumption | (show _ < (16 : Int); omega)) (by decide) ?_
                refine zA_isub dX1_fallOf_121 ?_
                refine zA_gets (q := zst0) dX1_fallOf_122 zst0_in gX1_11 ?_
                refine zA_iload dX1_fallOf_125 rfl ?_
                refine zA_sload (q := zst0) dX1_fallOf_127 zst0_in rfl (by first | assumption | omega) (by first | assumption | (show _ < (16 : Int); omega)) (by decide) ?_
                refine zA_gets (q := zst0) dX1_fallOf_128 zst0_in gX1_11 ?_
                refine zA_iload dX1_fallOf_131 rfl ?_
                refine zA_sload (q := zst0) dX1_fallOf_133 zst0_in rfl (by first | assumption | omega) (by first | assumption | (show _ < (16 : Int); omega)) (by decide) ?_
                refine zA_isub dX1_fallOf_134 ?_
                refine zA_cS (st := []) dX1_fallOf_135 sX1_furthest kX1_27 (s_furthest (w := w) (S := (ZZ t dr tx)) (p := zsv1 ((k + n) % 16) - zsv1 ((k + 15) % 16)) (q := zsv0 ((k + 15) % 16) - zsv0 ((k + n) % 16)) (by omega) (by omega) (by omega) (by omega)) (by decide) rfl rfl (Nat.le_of_ble_eq_true rfl) (zRp1_el (fun fv hfv => ?_))
                refine zA_iret dX1_fallOf_138 rfl ?_
                first
                | exact ⟨⟨_, rfl, Or.inr (Or.inr (Or.inl ⟨nA, nB, c101, rfl⟩))⟩, rfl, rfl⟩
                | exact ⟨⟨_, rfl, Or.inr (Or.inr (Or.inr ⟨nA, nB, c101, hfv⟩))⟩, rfl, rfl⟩
              · skip
                replace c101 := zite_ne c101
                refine zA_bipush dX1_fallOf_104 rfl ?_
                refine zA_goto (tgt := 138) dX1_fallOf_106 (by decide) ?_
                refine zA_iret dX1_fallOf_138 rfl ?_
                first
                | exact ⟨⟨_, rfl, Or.inr (Or.inr (Or.inl ⟨nA, nB, c101, rfl⟩))⟩, rfl, rfl⟩
                | exact ⟨⟨_, rfl, Or.inr (Or.inr (Or.inr ⟨nA, nB, c101, hfv⟩))⟩, rfl, rfl⟩
            · skip
              refine zA_iload_n dX1_fallOf_42 rfl ?_
              refine zA_iload dX1_fallOf_43 rfl ?_
              refine zA_iadd dX1_fallOf_45 ?_
              refine zA_bipush dX1_fallOf_46 rfl ?_
              refine zA_iand dX1_fallOf_48 ?_
              refine zA_valI ((k + i) % 16) (iAnd_15) ?_
              refine zA_iload_n dX1_fallOf_49 rfl ?_
              refine zA_iload dX1_fallOf_50 rfl ?_
              refine zA_iadd dX1_fallOf_52 ?_
              refine zA_iconst dX1_fallOf_53 ?_
              refine zA_iadd dX1_fallOf_54 ?_
              refine zA_bipush dX1_fallOf_55 rfl ?_
              refine zA_iand dX1_fallOf_57 ?_
              refine zA_valI ((k + i + 1) % 16) (iAnd_15) ?_
              refine zA_iload_n dX1_fallOf_58 rfl ?_
              refine zA_iload_n dX1_fallOf_59 rfl ?_
              refine zA_cS (st := []) dX1_fallOf_60 sX1_isInside kX1_18 (s_isInside (w := w) (S := (ZZ t dr tx)) (a := ((k + i) % 16)) (b := ((k + i + 1) % 16)) (x := x) (y := y) (by omega) (by omega) (by omega) (by omega) hC) (by decide) rfl rfl (Nat.le_of_ble_eq_true rfl) (zRt_el ?_)
              show zA l mX1_fallOf false 3 0 0 (zRp1 (flR k n x y) (ZZ t dr tx) w) zNo 63 [zI k, zI n, zI x, zI y, zI s, zI i, .null] [zI (if ins ((k + i) % 16) ((k + i + 1) % 16) x y then 1 else 0)] (ZZ t dr tx) w
              refine zA_if_ne (tgt := 69) dX1_fallOf_63 (by decide) (inR_ite _) (fun c63 => ?_) (fun c63 => ?_)
              · skip
                replace c63 := zite_ne c63
                refine zA_iinc (lo1 := [zI k, zI n, zI x, zI y, zI s, zI (i + 1), .null]) dX1_fallOf_69 rfl (by decide) rfl rfl ?_
                refine zA_goto (tgt := 35) dX1_fallOf_72 (by decide) ?_
                exact ih35 (i + 1) (by omega) (by omega) (fun j a b => by
                            by_cases hj : j = i
                            · rw [hj]; exact c63
                            · exact hB j a (by omega)) (by omega)
              · skip
                replace c63 := zite_eq c63
                refine zA_bipush dX1_fallOf_66 rfl ?_
                refine zA_iret dX1_fallOf_68 rfl ?_
                exact ⟨⟨_, rfl, Or.inr (Or.inl ⟨nA, ⟨i, ⟨i0, by omega⟩, c63⟩, rfl⟩)⟩, rfl, rfl⟩
        exact L35 _ n (by omega) (by omega) (fun j a b => by omega) (Nat.lt_succ_self _)
      · skip
        refine zA_iload dX1_fallOf_9 rfl ?_
        refine zA_iload_n dX1_fallOf_11 rfl ?_
        refine zA_iload dX1_fallOf_12 rfl ?_
        refine zA_iadd dX1_fallOf_14 ?_
        refine zA_bipush dX1_fallOf_15 rfl ?_
        refine zA_iand dX1_fallOf_17 ?_
        refine zA_valI ((k + i) % 16) (iAnd_15) ?_
        refine zA_ishr dX1_fallOf_18 ?_
        refine zA_iconst dX1_fallOf_19 ?_
        refine zA_iand dX1_fallOf_20 ?_
        refine zA_valI (if tb s ((k + i) % 16) = true then 1 else 0) (tb_get hs.1.1 (by have := hs.1.2; omega) (by omega) (by omega)) ?_
        refine zA_if_ne (tgt := 26) dX1_fallOf_21 (by decide) (inR_ite _) (fun c21 => ?_) (fun c21 => ?_)
        · skip
          replace c21 := zite_ne c21
          refine zA_iinc (lo1 := [zI k, zI n, zI x, zI y, zI s, zI (i + 1), .null]) dX1_fallOf_26 rfl (by decide) rfl rfl ?_
          refine zA_goto (tgt := 3) dX1_fallOf_29 (by decide) ?_
          exact ih3 (i + 1) (by omega) (by omega) (fun j a b => by
                      by_cases hj : j = i
                      · rw [hj]; exact (hs.2 _ (by omega) (by omega)).mp c21
                      · exact hA j a (by omega)) (by omega)
        · skip
          replace c21 := zite_eq c21
          refine zA_iconst dX1_fallOf_24 ?_
          refine zA_iret dX1_fallOf_25 rfl ?_
          exact ⟨⟨_, rfl, Or.inl ⟨⟨i, ⟨i0, by omega⟩, fun h => c21 ((hs.2 _ (by omega) (by omega)).mpr h)⟩, rfl⟩⟩, rfl, rfl⟩
  exact L3 _ 0 (by omega) (by omega) (fun j a b => by omega) (Nat.lt_succ_self _)

set_option maxRecDepth 100000 in
set_option maxHeartbeats 4000000 in
theorem s_fewest {l : Launch} {t dr tx : Nat} {w : zW} {x y : Int} (hC : okC x y) {f t0 : Int} (f0 : 0 ≤ f) (f1 : f < 16) (t0h : 0 ≤ t0) (t1 : t0 < 16) : zSp l mX1_fewest false 4 0 0 [zI f, zI t0, zI x, zI y] (ZZ t dr tx) w (zRp1 (isFst (fewP f t0 x y) 16) (ZZ t dr tx) w) zNo := by
  refine zA_intro ⟨plainFor_of_name (by decide +kernel), Or.inl (by decide +kernel)⟩ rfl (Nat.le_of_ble_eq_true rfl) ?_
  refine zA_range (fun hr => ?_)
  show zA l mX1_fewest false 4 0 0 (zRp1 (isFst (fewP f t0 x y) 16) (ZZ t dr tx) w) zNo 0 [zI f, zI t0, zI x, zI y, .null, .null, .null, .null] [] (ZZ t dr tx) w
  refine zA_iload_n dX1_fewest_0 rfl ?_
  refine zA_iload_n dX1_fewest_1 rfl ?_
  refine zA_cS (st := []) dX1_fewest_2 sX1_spare kX1_31 (s_spare (w := w) (x := x) (y := y) hC) (by decide) rfl rfl (Nat.le_of_ble_eq_true rfl) (zRp1_el (fun sp hsp => ?_))
  refine zA_istore (lo1 := [zI f, zI t0, zI x, zI y, zI sp, .null, .null, .null]) dX1_fewest_5 (by decide) rfl rfl ?_
  refine zA_iconst dX1_fewest_7 ?_
  refine zA_istore (lo1 := [zI f, zI t0, zI x, zI y, zI sp, zI 1, .null, .null]) dX1_fewest_8 (by decide) rfl rfl ?_
  have L10 : ∀ (z10 : Nat) (n : Int) (n0 : 1 ≤ n) (n1 : n ≤ 13) (hn : ∀ m : Int, 16 ≤ m → m < 16 * n → ¬ fewP f t0 x y m) (zm : (13 - n).toNat < z10), zA l mX1_fewest false 4 0 0 (zRp1 (isFst (fewP f t0 x y) 16) (ZZ t dr tx) w) zNo 10 [zI f, zI t0, zI x, zI y, zI sp, zI n, .null, .null] [] (ZZ t dr tx) w := by
    intro z10
    induction z10 with
    | zero => intro n n0 n1 hn zm; exact absurd zm (Nat.not_lt_zero _)
    | succ z10 ih10 =>
      intro n n0 n1 hn zm
      refine zA_iload dX1_fewest_10 rfl ?_
      refine zA_bipush dX1_fewest_12 rfl ?_
      refine zA_icmp_gt (tgt := 82) dX1_fewest_14 (by decide) (by first | assumption | exact hr _ _ | exact inR_mk (by omega) (by omega)) ⟨by decide, by decide⟩ (fun c14 => ?_) (fun c14 => ?_)
      · skip
        refine zA_iconst dX1_fewest_82 ?_
        refine zA_iret dX1_fewest_83 rfl ?_
        exact ⟨⟨_, rfl, Or.inl ⟨rfl, fun m a h => hn m a (by have := h.1; omega) h⟩⟩, rfl, rfl⟩
      · skip
        refine zA_iconst dX1_fewest_17 ?_
        refine zA_istore (lo1 := [zI f, zI t0, zI x, zI y, zI sp, zI n, zI 0, .null]) dX1_fewest_18 (by decide) rfl rfl ?_
        have L20 : ∀ (z20 : Nat) (k : Int) (k0 : 0 ≤ k) (k1 : k ≤ 16) (hk : ∀ m : Int, 16 ≤ m → m < 16 * n + k → ¬ fewP f t0 x y m) (zm : (16 - k).toNat < z20), zA l mX1_fewest false 4 0 0 (zRp1 (isFst (fewP f t0 x y) 16) (ZZ t dr tx) w) zNo 20 [zI f, zI t0, zI x, zI y, zI sp, zI n, zI k, .null] [] (ZZ t dr tx) w := by
          intro z20
          induction z20 with
          | zero => intro k k0 k1 hk zm; exact absurd zm (Nat.not_lt_zero _)
          | succ z20 ih20 =>
            intro k k0 k1 hk zm
            refine zA_iload dX1_fewest_20 rfl ?_
            refine zA_bipush dX1_fewest_22 rfl ?_
            refine zA_icmp_ge (tgt := 76) dX1_fewest_24 (by decide) (by first | assumption | exact hr _ _ | exact inR_mk (by omega) (by omega)) ⟨by decide, by decide⟩ (fun c24 => ?_) (fun c24 => ?_)
            · skip
              refine zA_iinc (lo1 := [zI f, zI t0, zI x, zI y, zI sp, zI (n + 1), zI k, .null]) dX1_fewest_76 rfl (by decide) rfl rfl ?_
              refine zA_goto (tgt := 10) dX1_fewest_79 (by decide) ?_
              refine zA_drop 6 (lo1 := [zI f, zI t0, zI x, zI y, zI sp, zI (n + 1), .null, .null]) rfl ?_
              exact ih10 (n + 1) (by omega) (by omega) (fun m a b => hk m a (by omega)) (by omega)
            · skip
              refine zA_iload dX1_fewest_27 rfl ?_
              refine zA_iload dX1_fewest_29 rfl ?_
              refine zA_iload_n dX1_fewest_31 rfl ?_
              refine zA_iload_n dX1_fewest_32 rfl ?_
              refine zA_iload dX1_fewest_33 rfl ?_
              refine zA_cS (st := []) dX1_fewest_35 sX1_fallOf kX1_34 (s_fallOf (w := w) (x := x) (y := y) hC (k := k) (n := n) (s := sp) k0 (by omega) (by omega) (by omega) hsp) (by decide) rfl rfl (Nat.le_of_ble_eq_true rfl) (zRp1_el (fun v hv => ?_))
              have hvb := flR_b hv
              refine zA_istore (lo1 := [zI f, zI t0, zI x, zI y, zI sp, zI n, zI k, zI v]) dX1_fewest_38 (by decide) rfl rfl ?_
              refine zA_iload dX1_fewest_40 rfl ?_
              refine zA_if_lt (tgt := 70) dX1_fewest_42 (by decide) (by first | assumption | exact hr _ _ | exact inR_mk (by omega) (by omega)) (fun c42 => ?_) (fun c42 => ?_)
              · skip
                refine zA_iinc (lo1 := [zI f, zI t0, zI x, zI y, zI sp, zI n, zI (k + 1), zI v]) dX1_fewest_70 rfl (by decide) rfl rfl ?_
                refine zA_goto (tgt := 20) dX1_fewest_73 (by decide) ?_
                refine zA_drop 7 (lo1 := [zI f, zI t0, zI x, zI y, zI sp, zI n, zI (k + 1), .null]) rfl ?_
                exact ih20 (k + 1) (by omega) (by omega) (fun m a b h => by
                              by_cases hm : m = 16 * n + k
                              · subst hm
                                obtain ⟨-, v2, g1, g2, g3⟩ := h
                                rw [show (16 * n + k) % 16 = k by omega, show (16 * n + k) / 16 = n by omega] at g1
                                have e := flR_u hv g1
                                subst e
                                omega
                              · exact hk m a (by omega) h) (by omega)
              · skip
                refine zA_iload dX1_fewest_45 rfl ?_
                refine zA_iload_n dX1_fewest_47 rfl ?_
                refine zA_isub dX1_fewest_48 ?_
                refine zA_bipush dX1_fewest_49 rfl ?_
                refine zA_iand dX1_fewest_51 ?_
                refine zA_valI ((v - f) % 16) (iAnd_15) ?_
                refine zA_iload_n dX1_fewest_52 rfl ?_
                refine zA_iload_n dX1_fewest_53 rfl ?_
                refine zA_isub dX1_fewest_54 ?_
                refine zA_bipush dX1_fewest_55 rfl ?_
                refine zA_iand dX1_fewest_57 ?_
                refine zA_valI ((t0 - f) % 16) (iAnd_15) ?_
                refine zA_icmp_gt (tgt := 70) dX1_fewest_58 (by decide) (by first | assumption | exact hr _ _ | exact inR_mk (by omega) (by omega)) (by first | assumption | exact hr _ _ | exact inR_mk (by omega) (by omega)) (fun c58 => ?_) (fun c58 => ?_)
                · skip
                  refine zA_iinc (lo1 := [zI f, zI t0, zI x, zI y, zI sp, zI n, zI (k + 1), zI v]) dX1_fewest_70 rfl (by decide) rfl rfl ?_
                  refine zA_goto (tgt := 20) dX1_fewest_73 (by decide) ?_
                  refine zA_drop 7 (lo1 := [zI f, zI t0, zI x, zI y, zI sp, zI n, zI (k + 1), .null]) rfl ?_
                  exact ih20 (k + 1) (by omega) (by omega) (fun m a b h => by
                                by_cases hm : m = 16 * n + k
                                · subst hm
                                  obtain ⟨-, v2, g1, g2, g3⟩ := h
                                  rw [show (16 * n + k) % 16 = k by omega, show (16 * n + k) / 16 = n by omega] at g1
                                  have e := flR_u hv g1
                                  subst e
                                  omega
                                · exact hk m a (by omega) h) (by omega)
                · skip
                  refine zA_bipush dX1_fewest_61 rfl ?_
                  refine zA_iload dX1_fewest_63 rfl ?_
                  refine zA_imul dX1_fewest_65 ?_
                  refine zA_iload dX1_fewest_66 rfl ?_
                  refine zA_iadd dX1_fewest_68 ?_
                  refine zA_iret dX1_fewest_69 rfl ?_
                  refine ⟨⟨_, rfl, Or.inr ⟨by omega, ⟨by omega, v, ?_, by omega, by omega⟩, fun m a b => hk m a b⟩⟩, rfl, rfl⟩
                  rw [show (16 * n + k) % 16 = k by omega, show (16 * n + k) / 16 = n by omega]
                  exact hv
        exact L20 _ 0 (by omega) (by omega) (fun m a b => hn m a (by omega)) (Nat.lt_succ_self _)
  exact L10 _ 1 (by omega) (by omega) (fun m a b => by omega) (Nat.lt_succ_self _)

theorem iAnd_65535 {z : Int} : iAnd z 65535 = z % 65536 := by
  have h := iAnd_m (z := z) 16 (by decide)
  rw [show (2 : Int) ^ 16 - 1 = 65535 by decide, show (2 : Int) ^ 16 = 65536 by decide] at h
  exact h
set_option maxRecDepth 100000 in
set_option maxHeartbeats 4000000 in
theorem s_stands {l : Launch} {t dr tx : Nat} {w : zW} {s : Int} {x y : Int} (hx : inR x) (hy : inR y)  : zSp l mX11_stands false 4 1 6 [zR 0, zI s, zI x, zI y] (ZZ t dr tx) w (zIr ((-95 ≤ x ∧ x ≤ 95) ∧ (-95 ≤ y ∧ y ≤ 95)) (isB (stOn (iAnd s 65535) x y)) (ZZ t dr tx) w) (zXp (False) (¬ ((-95 ≤ x ∧ x ≤ 95) ∧ (-95 ≤ y ∧ y ≤ 95))) (ZZ t dr tx) w) := by
  refine zA_intro ⟨plainFor_of_name (by decide +kernel), Or.inl (by decide +kernel)⟩ rfl (Nat.le_of_ble_eq_true rfl) ?_
  refine zA_range (fun hr => ?_)
  show zA l mX11_stands false 4 1 6 (zIr ((-95 ≤ x ∧ x ≤ 95) ∧ (-95 ≤ y ∧ y ≤ 95)) (isB (stOn (iAnd s 65535) x y)) (ZZ t dr tx) w) (zXp (False) (¬ ((-95 ≤ x ∧ x ≤ 95) ∧ (-95 ≤ y ∧ y ≤ 95))) (ZZ t dr tx) w) 0 [zR 0, zI s, zI x, zI y] [] (ZZ t dr tx) w
  refine zA_iload_n dX11_stands_0 rfl ?_
  refine zA_iload_n dX11_stands_1 rfl ?_
  refine zA_callS (bc2 := 0) (bs2 := 0) (st := []) dX11_stands_2 sX11_askCentre kX11_300 (s_askCentre (w := w) (x := x) (y := y) (by first | assumption | exact hr _ _ | exact inR_mk (by omega) (by omega)) (by first | assumption | exact hr _ _ | exact inR_mk (by omega) (by omega))) (by decide) rfl rfl (Nat.le_of_ble_eq_true rfl) ⟨rfl, rfl⟩ (zRa_el (fun h_2 => ?_)) (zXp_m rfl (fun h => by first | exact h.elim | omega) (fun h => by first | exact h.elim | omega))
  show zA l mX11_stands false 4 0 0 (zIr ((-95 ≤ x ∧ x ≤ 95) ∧ (-95 ≤ y ∧ y ≤ 95)) (isB (stOn (iAnd s 65535) x y)) (ZZ t dr tx) w) (zXp (False) (¬ ((-95 ≤ x ∧ x ≤ 95) ∧ (-95 ≤ y ∧ y ≤ 95))) (ZZ t dr tx) w) 5 [zR 0, zI s, zI x, zI y] [] (ZZ t dr tx) w
  refine zA_iload_n dX11_stands_5 rfl ?_
  refine zA_ldcw dX11_stands_6 qX11_305 ?_
  refine zA_iand dX11_stands_9 ?_
  refine zA_iload_n dX11_stands_10 rfl ?_
  refine zA_iload_n dX11_stands_11 rfl ?_
  refine zA_cS (st := []) dX11_stands_12 sX1_holds kX11_306 (s_holds (w := w) (s := iAnd s 65535) (x := x) (y := y) (by rw [iAnd_65535]; omega) (by rw [iAnd_65535]; omega) (by assumption)) (by decide) rfl rfl (Nat.le_of_ble_eq_true rfl) (zRp1_el (fun r_1 hr_1 => ?_))
  refine zA_zret dX11_stands_15 rfl (isB_01 hr_1) ?_
  exact ⟨by assumption, ⟨_, rfl, hr_1⟩, rfl, rfl⟩

set_option maxRecDepth 100000 in
set_option maxHeartbeats 4000000 in
theorem s_cut {l : Launch} {t dr tx : Nat} {w : zW} {k n : Int} (hk : inR k) (hn : inR n) {x y : Int} (hx : inR x) (hy : inR y)  : zSp l mX11_cut false 5 2 12 [zR 0, zI k, zI n, zI x, zI y] (ZZ t dr tx) w (zIr (((0 ≤ k ∧ k ≤ 15) ∧ (1 ≤ n ∧ n ≤ 12)) ∧ (-95 ≤ x ∧ x ≤ 95) ∧ (-95 ≤ y ∧ y ≤ 95)) (flR k n x y) (ZZ t dr tx) w) (zXp (False) (¬ (((0 ≤ k ∧ k ≤ 15) ∧ (1 ≤ n ∧ n ≤ 12)) ∧ (-95 ≤ x ∧ x ≤ 95) ∧ (-95 ≤ y ∧ y ≤ 95))) (ZZ t dr tx) w) := by
  refine zA_intro ⟨plainFor_of_name (by decide +kernel), Or.inl (by decide +kernel)⟩ rfl (Nat.le_of_ble_eq_true rfl) ?_
  refine zA_range (fun hr => ?_)
  show zA l mX11_cut false 5 2 12 (zIr (((0 ≤ k ∧ k ≤ 15) ∧ (1 ≤ n ∧ n ≤ 12)) ∧ (-95 ≤ x ∧ x ≤ 95) ∧ (-95 ≤ y ∧ y ≤ 95)) (flR k n x y) (ZZ t dr tx) w) (zXp (False) (¬ (((0 ≤ k ∧ k ≤ 15) ∧ (1 ≤ n ∧ n ≤ 12)) ∧ (-95 ≤ x ∧ x ≤ 95) ∧ (-95 ≤ y ∧ y ≤ 95))) (ZZ t dr tx) w) 0 [zR 0, zI k, zI n, zI x, zI y] [] (ZZ t dr tx) w
  refine zA_iconst dX11_cut_0 ?_
  refine zA_iload_n dX11_cut_1 rfl ?_
  refine zA_bipush dX11_cut_2 rfl ?_
  refine zA_cS (st := []) dX11_cut_4 sX11_between kX11_213 (s_between (w := w) (a := 0) (b := k) (e := 15) ⟨by decide, by decide⟩ (by first | assumption | exact hr _ _ | exact inR_mk (by omega) (by omega)) ⟨by decide, by decide⟩) (by decide) rfl rfl (Nat.le_of_ble_eq_true rfl) (zRt_el ?_)
  show zA l mX11_cut false 5 2 12 (zIr (((0 ≤ k ∧ k ≤ 15) ∧ (1 ≤ n ∧ n ≤ 12)) ∧ (-95 ≤ x ∧ x ≤ 95) ∧ (-95 ≤ y ∧ y ≤ 95)) (flR k n x y) (ZZ t dr tx) w) (zXp (False) (¬ (((0 ≤ k ∧ k ≤ 15) ∧ (1 ≤ n ∧ n ≤ 12)) ∧ (-95 ≤ x ∧ x ≤ 95) ∧ (-95 ≤ y ∧ y ≤ 95))) (ZZ t dr tx) w) 7 [zR 0, zI k, zI n, zI x, zI y] [zI (if 0 ≤ k ∧ k ≤ 15 then 1 else 0)] (ZZ t dr tx) w
  refine zA_if_eq (tgt := 20) dX11_cut_7 (by decide) (inR_ite _) (fun c7 => ?_) (fun c7 => ?_)
  · skip
    replace c7 := zite_eq c7
    refine zA_throw (sa := 1113) (zIAE_w dX11_cut_20 dX11_cut_23 ⟨dX11_cut_24, dX11_cut_27, dX11_cut_30⟩) (List.mem_of_getElem? (i := 13) rfl) rfl rfl (Nat.le_of_ble_eq_true rfl) (by decide) ?_
    exact ⟨Or.inr ⟨rfl, by omega⟩, rfl, rfl⟩
  · skip
    replace c7 := zite_ne c7
    refine zA_iconst dX11_cut_10 ?_
    refine zA_iload_n dX11_cut_11 rfl ?_
    refine zA_bipush dX11_cut_12 rfl ?_
    refine zA_cS (st := []) dX11_cut_14 sX11_between kX11_213 (s_between (w := w) (a := 1) (b := n) (e := 12) ⟨by decide, by decide⟩ (by first | assumption | exact hr _ _ | exact inR_mk (by omega) (by omega)) ⟨by decide, by decide⟩) (by decide) rfl rfl (Nat.le_of_ble_eq_true rfl) (zRt_el ?_)
    show zA l mX11_cut false 5 2 12 (zIr (((0 ≤ k ∧ k ≤ 15) ∧ (1 ≤ n ∧ n ≤ 12)) ∧ (-95 ≤ x ∧ x ≤ 95) ∧ (-95 ≤ y ∧ y ≤ 95)) (flR k n x y) (ZZ t dr tx) w) (zXp (False) (¬ (((0 ≤ k ∧ k ≤ 15) ∧ (1 ≤ n ∧ n ≤ 12)) ∧ (-95 ≤ x ∧ x ≤ 95) ∧ (-95 ≤ y ∧ y ≤ 95))) (ZZ t dr tx) w) 17 [zR 0, zI k, zI n, zI x, zI y] [zI (if 1 ≤ n ∧ n ≤ 12 then 1 else 0)] (ZZ t dr tx) w
    refine zA_if_ne (tgt := 31) dX11_cut_17 (by decide) (inR_ite _) (fun c17 => ?_) (fun c17 => ?_)
    · skip
      replace c17 := zite_ne c17
      refine zA_iload_n dX11_cut_31 rfl ?_
      refine zA_iload dX11_cut_32 rfl ?_
      refine zA_callS (bc2 := 1) (bs2 := 6) (st := []) dX11_cut_34 sX11_askCentre kX11_300 (s_askCentre (w := w) (x := x) (y := y) (by first | assumption | exact hr _ _ | exact inR_mk (by omega) (by omega)) (by first | assumption | exact hr _ _ | exact inR_mk (by omega) (by omega))) (by decide) rfl rfl (Nat.le_of_ble_eq_true rfl) ⟨rfl, rfl⟩ (zRa_el (fun h_34 => ?_)) (zXp_m rfl (fun h => by first | exact h.elim | omega) (fun h => by first | exact h.elim | omega))
      show zA l mX11_cut false 5 1 6 (zIr (((0 ≤ k ∧ k ≤ 15) ∧ (1 ≤ n ∧ n ≤ 12)) ∧ (-95 ≤ x ∧ x ≤ 95) ∧ (-95 ≤ y ∧ y ≤ 95)) (flR k n x y) (ZZ t dr tx) w) (zXp (False) (¬ (((0 ≤ k ∧ k ≤ 15) ∧ (1 ≤ n ∧ n ≤ 12)) ∧ (-95 ≤ x ∧ x ≤ 95) ∧ (-95 ≤ y ∧ y ≤ 95))) (ZZ t dr tx) w) 37 [zR 0, zI k, zI n, zI x, zI y] [] (ZZ t dr tx) w
      refine zA_iload_n dX11_cut_37 rfl ?_
      refine zA_iload_n dX11_cut_38 rfl ?_
      refine zA_iload_n dX11_cut_39 rfl ?_
      refine zA_iload dX11_cut_40 rfl ?_
      refine zA_iload_n dX11_cut_42 rfl ?_
      refine zA_iload dX11_cut_43 rfl ?_
      refine zA_cS (st := [zI y, zI x, zI n, zI k]) dX11_cut_45 sX1_spare kX11_311 (s_spare (w := w) (x := x) (y := y) (by assumption)) (by decide) rfl rfl (Nat.le_of_ble_eq_true rfl) (zRp1_el (fun sp hsp => ?_))
      refine zA_cS (st := []) dX11_cut_48 sX1_fallOf kX11_314 (s_fallOf (w := w) (x := x) (y := y) (by assumption) (k := k) (n := n) (s := sp) (by omega) (by omega) (by omega) (by omega) hsp) (by decide) rfl rfl (Nat.le_of_ble_eq_true rfl) (zRp1_el (fun v hv => ?_))
      refine zA_iret dX11_cut_51 rfl ?_
      exact ⟨⟨by omega, by assumption⟩, ⟨_, rfl, hv⟩, rfl, rfl⟩
    · skip
      replace c17 := zite_eq c17
      refine zA_throw (sa := 1113) (zIAE_w dX11_cut_20 dX11_cut_23 ⟨dX11_cut_24, dX11_cut_27, dX11_cut_30⟩) (List.mem_of_getElem? (i := 13) rfl) rfl rfl (Nat.le_of_ble_eq_true rfl) (by decide) ?_
      exact ⟨Or.inr ⟨rfl, by omega⟩, rfl, rfl⟩

set_option maxRecDepth 100000 in
set_option maxHeartbeats 4000000 in
theorem s_fell {l : Launch} {t dr tx : Nat} {w : zW} {f t0 : Int} (hf : inR f) (htt : inR t0) {x y : Int} (hx : inR x) (hy : inR y)  : zSp l mX11_fell false 5 2 12 [zR 0, zI f, zI t0, zI x, zI y] (ZZ t dr tx) w (zIr (((0 ≤ f ∧ f ≤ 15) ∧ (0 ≤ t0 ∧ t0 ≤ 15)) ∧ (-95 ≤ x ∧ x ≤ 95) ∧ (-95 ≤ y ∧ y ≤ 95)) (isFst (fewP f t0 x y) 16) (ZZ t dr tx) w) (zXp (False) (¬ (((0 ≤ f ∧ f ≤ 15) ∧ (0 ≤ t0 ∧ t0 ≤ 15)) ∧ (-95 ≤ x ∧ x ≤ 95) ∧ (-95 ≤ y ∧ y ≤ 95))) (ZZ t dr tx) w) := by
  refine zA_intro ⟨plainFor_of_name (by decide +kernel), Or.inl (by decide +kernel)⟩ rfl (Nat.le_of_ble_eq_true rfl) ?_
  refine zA_range (fun hr => ?_)
  show zA l mX11_fell false 5 2 12 (zIr (((0 ≤ f ∧ f ≤ 15) ∧ (0 ≤ t0 ∧ t0 ≤ 15)) ∧ (-95 ≤ x ∧ x ≤ 95) ∧ (-95 ≤ y ∧ y ≤ 95)) (isFst (fewP f t0 x y) 16) (ZZ t dr tx) w) (zXp (False) (¬ (((0 ≤ f ∧ f ≤ 15) ∧ (0 ≤ t0 ∧ t0 ≤ 15)) ∧ (-95 ≤ x ∧ x ≤ 95) ∧ (-95 ≤ y ∧ y ≤ 95))) (ZZ t dr tx) w) 0 [zR 0, zI f, zI t0, zI x, zI y] [] (ZZ t dr tx) w
  refine zA_iconst dX11_fell_0 ?_
  refine zA_iload_n dX11_fell_1 rfl ?_
  refine zA_bipush dX11_fell_2 rfl ?_
  refine zA_cS (st := []) dX11_fell_4 sX11_between kX11_213 (s_between (w := w) (a := 0) (b := f) (e := 15) ⟨by decide, by decide⟩ (by first | assumption | exact hr _ _ | exact inR_mk (by omega) (by omega)) ⟨by decide, by decide⟩) (by decide) rfl rfl (Nat.le_of_ble_eq_true rfl) (zRt_el ?_)
  show zA l mX11_fell false 5 2 12 (zIr (((0 ≤ f ∧ f ≤ 15) ∧ (0 ≤ t0 ∧ t0 ≤ 15)) ∧ (-95 ≤ x ∧ x ≤ 95) ∧ (-95 ≤ y ∧ y ≤ 95)) (isFst (fewP f t0 x y) 16) (ZZ t dr tx) w) (zXp (False) (¬ (((0 ≤ f ∧ f ≤ 15) ∧ (0 ≤ t0 ∧ t0 ≤ 15)) ∧ (-95 ≤ x ∧ x ≤ 95) ∧ (-95 ≤ y ∧ y ≤ 95))) (ZZ t dr tx) w) 7 [zR 0, zI f, zI t0, zI x, zI y] [zI (if 0 ≤ f ∧ f ≤ 15 then 1 else 0)] (ZZ t dr tx) w
  refine zA_if_eq (tgt := 20) dX11_fell_7 (by decide) (inR_ite _) (fun c7 => ?_) (fun c7 => ?_)
  · skip
    replace c7 := zite_eq c7
    refine zA_throw (sa := 1114) (zIAE_w dX11_fell_20 dX11_fell_23 ⟨dX11_fell_24, dX11_fell_27, dX11_fell_30⟩) (List.mem_of_getElem? (i := 14) rfl) rfl rfl (Nat.le_of_ble_eq_true rfl) (by decide) ?_
    exact ⟨Or.inr ⟨rfl, by omega⟩, rfl, rfl⟩
  · skip
    replace c7 := zite_ne c7
    refine zA_iconst dX11_fell_10 ?_
    refine zA_iload_n dX11_fell_11 rfl ?_
    refine zA_bipush dX11_fell_12 rfl ?_
    refine zA_cS (st := []) dX11_fell_14 sX11_between kX11_213 (s_between (w := w) (a := 0) (b := t0) (e := 15) ⟨by decide, by decide⟩ (by first | assumption | exact hr _ _ | exact inR_mk (by omega) (by omega)) ⟨by decide, by decide⟩) (by decide) rfl rfl (Nat.le_of_ble_eq_true rfl) (zRt_el ?_)
    show zA l mX11_fell false 5 2 12 (zIr (((0 ≤ f ∧ f ≤ 15) ∧ (0 ≤ t0 ∧ t0 ≤ 15)) ∧ (-95 ≤ x ∧ x ≤ 95) ∧ (-95 ≤ y ∧ y ≤ 95)) (isFst (fewP f t0 x y) 16) (ZZ t dr tx) w) (zXp (False) (¬ (((0 ≤ f ∧ f ≤ 15) ∧ (0 ≤ t0 ∧ t0 ≤ 15)) ∧ (-95 ≤ x ∧ x ≤ 95) ∧ (-95 ≤ y ∧ y ≤ 95))) (ZZ t dr tx) w) 17 [zR 0, zI f, zI t0, zI x, zI y] [zI (if 0 ≤ t0 ∧ t0 ≤ 15 then 1 else 0)] (ZZ t dr tx) w
    refine zA_if_ne (tgt := 31) dX11_fell_17 (by decide) (inR_ite _) (fun c17 => ?_) (fun c17 => ?_)
    · skip
      replace c17 := zite_ne c17
      refine zA_iload_n dX11_fell_31 rfl ?_
      refine zA_iload dX11_fell_32 rfl ?_
      refine zA_callS (bc2 := 1) (bs2 := 6) (st := []) dX11_fell_34 sX11_askCentre kX11_300 (s_askCentre (w := w) (x := x) (y := y) (by first | assumption | exact hr _ _ | exact inR_mk (by omega) (by omega)) (by first | assumption | exact hr _ _ | exact inR_mk (by omega) (by omega))) (by decide) rfl rfl (Nat.le_of_ble_eq_true rfl) ⟨rfl, rfl⟩ (zRa_el (fun h_34 => ?_)) (zXp_m rfl (fun h => by first | exact h.elim | omega) (fun h => by first | exact h.elim | omega))
      show zA l mX11_fell false 5 1 6 (zIr (((0 ≤ f ∧ f ≤ 15) ∧ (0 ≤ t0 ∧ t0 ≤ 15)) ∧ (-95 ≤ x ∧ x ≤ 95) ∧ (-95 ≤ y ∧ y ≤ 95)) (isFst (fewP f t0 x y) 16) (ZZ t dr tx) w) (zXp (False) (¬ (((0 ≤ f ∧ f ≤ 15) ∧ (0 ≤ t0 ∧ t0 ≤ 15)) ∧ (-95 ≤ x ∧ x ≤ 95) ∧ (-95 ≤ y ∧ y ≤ 95))) (ZZ t dr tx) w) 37 [zR 0, zI f, zI t0, zI x, zI y] [] (ZZ t dr tx) w
      refine zA_iload_n dX11_fell_37 rfl ?_
      refine zA_iload_n dX11_fell_38 rfl ?_
      refine zA_iload_n dX11_fell_39 rfl ?_
      refine zA_iload dX11_fell_40 rfl ?_
      refine zA_cS (st := []) dX11_fell_42 sX1_fewest kX11_320 (s_fewest (w := w) (x := x) (y := y) (by assumption) (f := f) (t0 := t0) (by omega) (by omega) (by omega) (by omega)) (by decide) rfl rfl (Nat.le_of_ble_eq_true rfl) (zRp1_el (fun v hv => ?_))
      refine zA_iret dX11_fell_45 rfl ?_
      exact ⟨⟨by omega, by assumption⟩, ⟨_, rfl, hv⟩, rfl, rfl⟩
    · skip
      replace c17 := zite_eq c17
      refine zA_throw (sa := 1114) (zIAE_w dX11_fell_20 dX11_fell_23 ⟨dX11_fell_24, dX11_fell_27, dX11_fell_30⟩) (List.mem_of_getElem? (i := 14) rfl) rfl rfl (Nat.le_of_ble_eq_true rfl) (by decide) ?_
      exact ⟨Or.inr ⟨rfl, by omega⟩, rfl, rfl⟩

