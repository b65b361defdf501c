/-! plans, the pure part: rows of letters with the days on which they are begun; r: a row backwards, t: what is put behind it -/
theorem fst_ex {P : Int → Prop} (hP : ∀ d, P d → d < 30) : ∀ (k : Nat) (d : Int), 30 - d ≤ k → ∃ r, isFst P d r := by
  intro k
  induction k with
  | zero => intro d hd; exact ⟨-1, Or.inl ⟨rfl, fun x hx hp => by have := hP x hp; omega⟩⟩
  | succ k ih =>
    intro d hd
    by_cases h : P d
    · exact ⟨d, Or.inr ⟨Int.le_refl _, h, fun x a b => by omega⟩⟩
    · obtain ⟨r, hr⟩ := ih (d + 1) (by omega)
      refine ⟨r, ?_⟩
      rcases hr with ⟨h1, h2⟩ | ⟨h1, h2, h3⟩
      · refine Or.inl ⟨h1, fun x hx hp => ?_⟩
        by_cases e : x = d
        · exact h (by rw [← e]; exact hp)
        · exact h2 x (by omega) hp
      · refine Or.inr ⟨by omega, h2, fun x a b hp => ?_⟩
        by_cases e : x = d
        · exact h (by rw [← e]; exact hp)
        · exact h3 x (by omega) b hp
noncomputable def fdF (P : Int → Prop) (d : Int) : Int := @dite _ (∃ r, isFst P d r) (Classical.propDecidable _) (fun h => Classical.choose h) (fun _ => -1)
theorem fdF_is {P : Int → Prop} {d : Int} (hP : ∀ d, P d → d < 30) : isFst P d (fdF P d) := by
  have h := fst_ex hP (30 - d).toNat d (by omega)
  unfold fdF
  rw [dif_pos h]
  exact Classical.choose_spec h
theorem fdF_eq {P : Int → Prop} {d r : Int} (h : isFst P d r) : fdF P d = r := by
  have h2 : ∃ r, isFst P d r := ⟨r, h⟩
  unfold fdF
  rw [dif_pos h2]
  exact isFst_u (Classical.choose_spec h2) h
def okG (can : Int → Int → Prop) (wd pr : Int → Int) (tr : Int → Int → Int) (n : Int) : Prop := (0 ≤ n ∧ n ≤ 8) ∧ ∀ l : Int, 0 ≤ l → l < n → (1 ≤ wd l ∧ wd l ≤ 9) ∧ (0 ≤ pr l ∧ pr l ≤ 9999) ∧ (∀ b : Int, 0 ≤ b → b < n → 0 ≤ tr l b ∧ tr l b ≤ 9) ∧ ∀ d : Int, can l d → 0 ≤ d ∧ d + wd l ≤ 30
def frr (wd : Int → Int) (tr : Int → Int → Int) : List (Int × Int) → Int → Int
  | [], _ => 0
  | x :: _, l => x.2 + wd x.1 + tr x.1 l
def enR (wd : Int → Int) : List (Int × Int) → Int
  | [] => -1
  | x :: _ => x.2 + wd x.1 - 1
def prR (pr : Int → Int) : List (Int × Int) → Int
  | [] => 0
  | x :: r => pr x.1 + prR pr r
def has : List (Int × Int) → Int → Prop
  | [], _ => False
  | x :: r, l => x.1 = l ∨ has r l
def hdR : List (Int × Int) → Int
  | [] => -1
  | x :: _ => x.1
def stp (can : Int → Int → Prop) (wd : Int → Int) (tr : Int → Int → Int) (n : Int) (r : List (Int × Int)) (x : Int × Int) : Prop := (0 ≤ x.1 ∧ x.1 < n) ∧ ¬ has r x.1 ∧ x.2 = fdF (can x.1) (frr wd tr r x.1) ∧ x.2 ≠ -1
def rz (can : Int → Int → Prop) (wd : Int → Int) (tr : Int → Int → Int) (n : Int) : List (Int × Int) → Prop
  | [] => True
  | x :: r => stp can wd tr n r x ∧ rz can wd tr n r
def fz (can : Int → Int → Prop) (wd : Int → Int) (tr : Int → Int → Int) (n : Int) : List (Int × Int) → List (Int × Int) → Prop
  | [], _ => True
  | x :: t, r => stp can wd tr n r x ∧ fz can wd tr n t (x :: r)
def ct : List (Int × Int) → List (Int × Int) → List (Int × Int)
  | [], r => r
  | x :: t, r => ct t (x :: r)
/-- comes ahead in the order of tries -/
def pz : List (Int × Int) → List (Int × Int) → Prop
  | _, [] => False
  | [], _ :: _ => True
  | x :: t, y :: u => x.1 < y.1 ∨ (x.1 = y.1 ∧ pz t u)
theorem stp_d {can : Int → Int → Prop} {wd pr : Int → Int} {tr : Int → Int → Int} {n : Int} (hG : okG can wd pr tr n) {r : List (Int × Int)} {x : Int × Int} (h : stp can wd tr n r x) : ((0 ≤ x.2 ∧ x.2 + wd x.1 ≤ 30) ∧ frr wd tr r x.1 ≤ x.2) ∧ can x.1 x.2 ∧ 1 ≤ wd x.1 ∧ wd x.1 ≤ 9 := by
  obtain ⟨⟨h1, h2⟩, h3, h4, h5⟩ := h
  obtain ⟨g1, g2, g3, g4⟩ := hG.2 x.1 h1 h2
  have hf := fdF_is (P := can x.1) (d := frr wd tr r x.1) (fun d hd => by have := g4 d hd; omega)
  rw [← h4] at hf
  rcases hf with ⟨a, b⟩ | ⟨a, b, c⟩
  · exact absurd a h5
  · have := g4 _ b
    exact ⟨⟨this, a⟩, b, g1⟩
theorem stp_c {can : Int → Int → Prop} {wd : Int → Int} {tr : Int → Int → Int} {n : Int} {r : List (Int × Int)} {l d : Int} (h0 : 0 ≤ l ∧ l < n) (h1 : ¬ has r l) (h2 : isFst (can l) (frr wd tr r l) d) (h3 : d ≠ -1) : stp can wd tr n r (l, d) := ⟨h0, h1, (fdF_eq h2).symm, h3⟩
theorem frr_en {can : Int → Int → Prop} {wd pr : Int → Int} {tr : Int → Int → Int} {n : Int} (hG : okG can wd pr tr n) {r : List (Int × Int)} (hr : rz can wd tr n r) {l : Int} (l0 : 0 ≤ l) (l1 : l < n) : enR wd r < frr wd tr r l ∧ (r ≠ [] → frr wd tr r l = enR wd r + 1 + tr (hdR r) l ∧ 0 ≤ enR wd r ∧ enR wd r ≤ 29 ∧ 0 ≤ hdR r ∧ hdR r < n) := by
  cases r with
  | nil => exact ⟨by show (-1 : Int) < 0; decide, fun h => absurd rfl h⟩
  | cons x r =>
    have h := hr.1
    have hd := stp_d hG h
    have ht := (hG.2 x.1 h.1.1 h.1.2).2.2.1 l l0 l1
    refine ⟨?_, fun _ => ⟨?_, ?_, ?_, h.1.1, h.1.2⟩⟩
    · show x.2 + wd x.1 - 1 < x.2 + wd x.1 + tr x.1 l; omega
    · show x.2 + wd x.1 + tr x.1 l = x.2 + wd x.1 - 1 + 1 + tr x.1 l; omega
    · show 0 ≤ x.2 + wd x.1 - 1; omega
    · show x.2 + wd x.1 - 1 ≤ 29; omega
theorem enR_lt {can : Int → Int → Prop} {wd pr : Int → Int} {tr : Int → Int → Int} {n : Int} (hG : okG can wd pr tr n) {r : List (Int × Int)} {x : Int × Int} (hr : rz can wd tr n r) (h : stp can wd tr n r x) : enR wd r < enR wd (x :: r) := by
  have h1 := (frr_en hG hr h.1.1 h.1.2).1
  have h2 := stp_d hG h
  show enR wd r < x.2 + wd x.1 - 1
  omega
theorem enR_b {can : Int → Int → Prop} {wd pr : Int → Int} {tr : Int → Int → Int} {n : Int} (hG : okG can wd pr tr n) {r : List (Int × Int)} (hr : rz can wd tr n r) : -1 ≤ enR wd r ∧ enR wd r ≤ 29 := by
  cases r with
  | nil => exact ⟨Int.le_refl _, by show (-1 : Int) ≤ 29; decide⟩
  | cons x r =>
    have hd := stp_d hG hr.1
    constructor
    · show -1 ≤ x.2 + wd x.1 - 1; omega
    · show x.2 + wd x.1 - 1 ≤ 29; omega
theorem rz_ct {can : Int → Int → Prop} {wd : Int → Int} {tr : Int → Int → Int} {n : Int} : ∀ {t r : List (Int × Int)}, rz can wd tr n r → fz can wd tr n t r → rz can wd tr n (ct t r)
  | [], _, h, _ => h
  | x :: t, r, h, k => rz_ct (t := t) (r := x :: r) ⟨k.1, h⟩ k.2
theorem enR_ct {can : Int → Int → Prop} {wd pr : Int → Int} {tr : Int → Int → Int} {n : Int} (hG : okG can wd pr tr n) : ∀ {t r : List (Int × Int)}, rz can wd tr n r → fz can wd tr n t r → enR wd r ≤ enR wd (ct t r)
  | [], _, _, _ => Int.le_refl _
  | _ :: _, _, h, k => Int.le_trans (Int.le_of_lt (enR_lt hG h k.1)) (enR_ct hG ⟨k.1, h⟩ k.2)
theorem ct_app : ∀ (t u r : List (Int × Int)), ct (t ++ u) r = ct u (ct t r)
  | [], _, _ => rfl
  | x :: t, u, r => ct_app t u (x :: r)
theorem fz_app {can : Int → Int → Prop} {wd : Int → Int} {tr : Int → Int → Int} {n : Int} : ∀ (t u r : List (Int × Int)), fz can wd tr n (t ++ u) r ↔ fz can wd tr n t r ∧ fz can wd tr n u (ct t r)
  | [], _, _ => ⟨fun h => ⟨trivial, h⟩, fun h => h.2⟩
  | x :: t, u, r => by
    have ih := fz_app (can := can) (wd := wd) (tr := tr) (n := n) t u (x :: r)
    exact ⟨fun h => ⟨⟨h.1, (ih.mp h.2).1⟩, (ih.mp h.2).2⟩, fun h => ⟨h.1.1, ih.mpr ⟨h.1.2, h.2⟩⟩⟩
theorem rz_fz {can : Int → Int → Prop} {wd : Int → Int} {tr : Int → Int → Int} {n : Int} : ∀ (s : List (Int × Int)), rz can wd tr n s → ∃ t, fz can wd tr n t [] ∧ ct t [] = s
  | [], _ => ⟨[], trivial, rfl⟩
  | x :: s, h => by
    obtain ⟨t, h1, h2⟩ := rz_fz s h.2
    refine ⟨t ++ [x], (fz_app t [x] []).mpr ⟨h1, ?_⟩, ?_⟩
    · rw [h2]; exact ⟨h.1, trivial⟩
    · rw [ct_app, h2]; rfl
theorem ct_len : ∀ (t r : List (Int × Int)), (ct t r).length = t.length + r.length
  | [], r => by show r.length = 0 + r.length; omega
  | x :: t, r => by
    have := ct_len t (x :: r)
    show (ct t (x :: r)).length = (t.length + 1) + r.length
    rw [this]
    show t.length + (r.length + 1) = _
    omega
theorem pz_irr : ∀ {t : List (Int × Int)}, ¬ pz t t
  | [], h => h
  | x :: t, h => by
    rcases h with h | ⟨-, h⟩
    · omega
    · exact pz_irr h
theorem pz_asym : ∀ {t u : List (Int × Int)}, pz t u → pz u t → False
  | [], [], h, _ => h
  | [], _ :: _, _, k => k
  | _ :: _, [], h, _ => h
  | x :: t, y :: u, h, k => by
    rcases h with h | ⟨h, h2⟩ <;> rcases k with k | ⟨k, k2⟩
    · omega
    · omega
    · omega
    · exact pz_asym h2 k2
theorem pz_app : ∀ (v : List (Int × Int)) {t u : List (Int × Int)}, pz t u → pz (v ++ t) (v ++ u)
  | [], _, _, h => h
  | _ :: v, _, _, h => Or.inr ⟨rfl, pz_app v h⟩
theorem fz_tri {can : Int → Int → Prop} {wd : Int → Int} {tr : Int → Int → Int} {n : Int} : ∀ {t u r : List (Int × Int)}, fz can wd tr n t r → fz can wd tr n u r → t = u ∨ pz t u ∨ pz u t
  | [], [], _, _, _ => Or.inl rfl
  | [], _ :: _, _, _, _ => Or.inr (Or.inl trivial)
  | _ :: _, [], _, _, _ => Or.inr (Or.inr trivial)
  | x :: t, y :: u, r, h, k => by
    rcases Int.lt_trichotomy x.1 y.1 with g | g | g
    · exact Or.inr (Or.inl (Or.inl g))
    · have e : x = y := by
        have h2 : x.2 = y.2 := by rw [h.1.2.2.1, k.1.2.2.1, g]
        exact Prod.ext g h2
      subst e
      rcases fz_tri h.2 k.2 with q | q | q
      · exact Or.inl (by rw [q])
      · exact Or.inr (Or.inl (Or.inr ⟨rfl, q⟩))
      · exact Or.inr (Or.inr (Or.inr ⟨rfl, q⟩))
    · exact Or.inr (Or.inr (Or.inl g))
/-- the best row: most price, then the earliest end, then the first that is tried -/
def bz (can : Int → Int → Prop) (wd pr : Int → Int) (tr : Int → Int → Int) (n : Int) (R : List (Int × Int)) : Prop := fz can wd tr n R [] ∧ ∀ t, fz can wd tr n t [] → prR pr (ct t []) < prR pr (ct R []) ∨ (prR pr (ct t []) = prR pr (ct R []) ∧ (enR wd (ct R []) < enR wd (ct t []) ∨ (enR wd (ct R []) = enR wd (ct t []) ∧ (t = R ∨ pz R t))))
theorem bz_u {can : Int → Int → Prop} {wd pr : Int → Int} {tr : Int → Int → Int} {n : Int} {R R' : List (Int × Int)} (h : bz can wd pr tr n R) (k : bz can wd pr tr n R') : R = R' := by
  have h1 := h.2 R' k.1
  have k1 := k.2 R h.1
  rcases h1 with h1 | ⟨h1, h2 | ⟨h2, h3 | h3⟩⟩ <;> rcases k1 with k1 | ⟨k1, k2 | ⟨k2, k3 | k3⟩⟩
  all_goals first | (exfalso; omega) | exact h3.symm | exact k3 | exact (pz_asym h3 k3).elim
/-- a row's letters as bits -/
def stR (n : Int) (r : List (Int × Int)) (S : Int) : Prop := (0 ≤ S ∧ S < ((2 ^ n.toNat : Nat) : Int)) ∧ ∀ l : Int, 0 ≤ l → l < n → (tb S l = true ↔ has r l)
theorem pow8 {m : Int} (h0 : 0 ≤ m) (h : m ≤ 8) : 1 ≤ ((2 ^ m.toNat : Nat) : Int) ∧ ((2 ^ m.toNat : Nat) : Int) ≤ 256 := by
  have h1 : 0 < 2 ^ m.toNat := Nat.pow_pos (by decide)
  have h2 : 2 ^ m.toNat ≤ 2 ^ 8 := Nat.pow_le_pow_right (by decide) (by omega)
  omega
theorem st_0 {n : Int} : stR n [] 0 := ⟨⟨Int.le_refl _, by have : 0 < 2 ^ n.toNat := Nat.pow_pos (by decide); omega⟩, fun l _ _ => by rw [tb_0]; exact ⟨fun h => absurd h (by decide), fun h => h.elim⟩⟩
theorem orN {n S x : Int} (n0 : 0 ≤ n) (n8 : n ≤ 8) (s0 : 0 ≤ S) (s1 : S < ((2 ^ n.toNat : Nat) : Int)) (x0 : 0 ≤ x) (x1 : x < n) : (0 ≤ iOr S (iShl 1 x) ∧ iOr S (iShl 1 x) < ((2 ^ n.toNat : Nat) : Int)) ∧ (∀ j : Int, 0 ≤ j → tb (iOr S (iShl 1 x)) j = (tb S j || decide (j = x))) := by
  have hp := pow8 n0 n8
  have h := tb_or (x := S) (i := x) s0 (by omega) x0 (by omega)
  refine ⟨⟨h.1.1, tb_Mlt n0 h.1.1 (fun j hj => ?_)⟩, h.2⟩
  rw [h.2 j (by omega), tb_Mhi n0 s1 hj, Bool.false_or]
  exact decide_eq_false (by omega)
theorem st_s {n S : Int} {r : List (Int × Int)} {x : Int × Int} (n0 : 0 ≤ n) (n8 : n ≤ 8) (h : stR n r S) (x0 : 0 ≤ x.1) (x1 : x.1 < n) : stR n (x :: r) (iOr S (iShl 1 x.1)) := by
  have ho := orN n0 n8 h.1.1 h.1.2 x0 x1
  refine ⟨ho.1, fun l l0 l1 => ?_⟩
  rw [ho.2 l l0, Bool.or_eq_true, decide_eq_true_iff, h.2 l l0 l1]
  exact ⟨fun q => q.elim Or.inr (fun e => Or.inl e.symm), fun q => q.elim (fun e => Or.inr e.symm) Or.inl⟩
theorem st_u {n S S' : Int} {r : List (Int × Int)} (n0 : 0 ≤ n) (h : stR n r S) (k : stR n r S') : S = S' := tb_ext h.1.1 k.1.1 (fun j j0 => by
  by_cases hj : j < n
  · exact tb_iff ((h.2 j j0 hj).trans (k.2 j j0 hj).symm)
  · rw [tb_Mhi n0 h.1.2 (by omega), tb_Mhi n0 k.1.2 (by omega)])
theorem or_gt {n S x : Int} (n0 : 0 ≤ n) (n8 : n ≤ 8) (s0 : 0 ≤ S) (s1 : S < ((2 ^ n.toNat : Nat) : Int)) (x0 : 0 ≤ x) (x1 : x < n) (h : tb S x = false) : S < iOr S (iShl 1 x) := by
  have hp := pow8 n0 n8
  have hx := pow8 x0 (show x ≤ 8 by omega)
  have e : iOr S (iShl 1 x) = ((S.toNat ||| 2 ^ x.toNat : Nat) : Int) := by
    rw [iShl_1 x0 (by omega), iOr_nn s0 (by omega) (by omega) (by omega), Int.toNat_natCast]
  have h1 : S.toNat ≤ S.toNat ||| 2 ^ x.toNat := Nat.left_le_or
  have h2 : S.toNat ≠ S.toNat ||| 2 ^ x.toNat := fun q => by
    have : tb S x = true := by
      unfold tb
      rw [q, Nat.testBit_or, Nat.testBit_two_pow_self, Bool.or_true]
    rw [h] at this; cases this
  omega
theorem st_t {n S : Int} {r : List (Int × Int)} {x : Int × Int} (n0 : 0 ≤ n) (n8 : n ≤ 8) (h : stR n (x :: r) S) (x0 : 0 ≤ x.1) (x1 : x.1 < n) (hx : ¬ has r x.1) : ∃ S', stR n r S' ∧ S = iOr S' (iShl 1 x.1) ∧ S' < S := by
  have hp := pow8 n0 n8
  have hc := tb_clr (x := S) (i := x.1) h.1.1 (by have := h.1.2; omega) x0 (by omega)
  have hst : stR n r (iAnd S (iXor (iShl 1 x.1) (-1))) := by
    refine ⟨⟨hc.1.1, tb_Mlt n0 hc.1.1 (fun j hj => by rw [hc.2 j (by omega), tb_Mhi n0 h.1.2 hj, Bool.false_and])⟩, fun l l0 l1 => ?_⟩
    rw [hc.2 l l0, Bool.and_eq_true, h.2 l l0 l1]
    constructor
    · rintro ⟨q | q, g⟩
      · have : decide (l = x.1) = true := decide_eq_true q.symm
        rw [this] at g; cases g
      · exact q
    · intro q
      refine ⟨Or.inr q, ?_⟩
      have : decide (l = x.1) = false := decide_eq_false (fun e => hx (by rw [← e]; exact q))
      rw [this]; rfl
  refine ⟨_, hst, st_u n0 h (st_s n0 n8 hst x0 x1), ?_⟩
  have hf : tb (iAnd S (iXor (iShl 1 x.1) (-1))) x.1 = false := by
    rw [hc.2 _ x0, decide_eq_true rfl]; simp
  rw [show S = iOr (iAnd S (iXor (iShl 1 x.1) (-1))) (iShl 1 x.1) from st_u n0 h (st_s n0 n8 hst x0 x1)]
  have := or_gt n0 n8 hst.1.1 hst.1.2 x0 x1 hf
  rw [show iOr (iAnd S (iXor (iShl 1 x.1) (-1))) (iShl 1 x.1) = S from (st_u n0 h (st_s n0 n8 hst x0 x1)).symm] at this ⊢
  exact this
theorem prR_sum {can : Int → Int → Prop} {wd pr : Int → Int} {tr : Int → Int → Int} {n : Int} : ∀ (r : List (Int × Int)), rz can wd tr n r → ∀ f : Nat → Int, (∀ k : Nat, (k : Int) < n → has r k → f k = pr k) → (∀ k : Nat, (k : Int) < n → ¬ has r k → f k = 0) → zsum n.toNat f = prR pr r
  | [], _, f, _, h2 => zsum0 _ (fun k hk => h2 k (by omega) (fun h => h))
  | x :: r, h, f, h1, h2 => by
    obtain ⟨⟨x0, x1⟩, x2, -⟩ := h.1
    have ih := prR_sum (pr := pr) r h.2 (fun k => if (k : Int) = x.1 then 0 else f k) (fun k hk hh => by
      have e : (k : Int) ≠ x.1 := fun e => x2 (by rw [← e]; exact hh)
      show (if (k : Int) = x.1 then 0 else f k) = _
      rw [if_neg e]
      exact h1 k hk (Or.inr hh)) (fun k hk hh => by
      show (if (k : Int) = x.1 then 0 else f k) = _
      by_cases e : (k : Int) = x.1
      · rw [if_pos e]
      · rw [if_neg e]
        exact h2 k hk (fun q => q.elim (fun q => e q.symm) hh))
    have hz := zsum_at (f := f) (g := fun k => if (k : Int) = x.1 then 0 else f k) n.toNat x.1.toNat (by omega) (fun k hk hne => by
      show f k = if (k : Int) = x.1 then 0 else f k
      rw [if_neg (by omega)])
    have e1 : f x.1.toNat = pr x.1 := by
      have := h1 x.1.toNat (by omega) (Or.inl (by omega))
      rw [this, zcast x0]
    have e2 : (if ((x.1.toNat : Nat) : Int) = x.1 then 0 else pr x.1) = 0 := if_pos (zcast x0)
    rw [ih, e1, e2] at hz
    show _ = pr x.1 + prR pr r
    omega
/-- the price of a set -/
def psS (pr : Int → Int) (n S : Int) : Int := zsum n.toNat (fun k => if tb S k = true then pr k else 0)
theorem prR_st {can : Int → Int → Prop} {wd pr : Int → Int} {tr : Int → Int → Int} {n : Int} {r : List (Int × Int)} {S : Int} (hr : rz can wd tr n r) (h : stR n r S) : prR pr r = psS pr n S := (prR_sum (pr := pr) r hr _ (fun k hk hh => by
    show (if tb S k = true then pr k else 0) = _
    rw [if_pos ((h.2 k (by omega) hk).mpr hh)]) (fun k hk hh => by
    show (if tb S k = true then pr k else 0) = _
    rw [if_neg (fun q => hh ((h.2 k (by omega) hk).mp q))])).symm
/-- the end of a letter that can't be worked before a day -/
noncomputable def eo (can : Int → Int → Prop) (wd : Int → Int) (l day : Int) : Int := if fdF (can l) day = -1 then 1000 else fdF (can l) day + wd l - 1
theorem eo_b {can : Int → Int → Prop} {wd pr : Int → Int} {tr : Int → Int → Int} {n : Int} (hG : okG can wd pr tr n) {l day : Int} (l0 : 0 ≤ l) (l1 : l < n) : eo can wd l day = 1000 ∨ (0 ≤ eo can wd l day ∧ eo can wd l day ≤ 29) := by
  obtain ⟨g1, g2, g3, g4⟩ := hG.2 l l0 l1
  have hf := fdF_is (P := can l) (d := day) (fun d hd => by have := g4 d hd; omega)
  unfold eo
  rcases hf with ⟨a, b⟩ | ⟨a, b, c⟩
  · rw [if_pos a]; exact Or.inl rfl
  · have := g4 _ b
    rw [if_neg (by omega)]
    exact Or.inr (by omega)
theorem eo_mono {can : Int → Int → Prop} {wd pr : Int → Int} {tr : Int → Int → Int} {n : Int} (hG : okG can wd pr tr n) {l a b : Int} (l0 : 0 ≤ l) (l1 : l < n) (h : a ≤ b) : eo can wd l a ≤ eo can wd l b := by
  obtain ⟨g1, g2, g3, g4⟩ := hG.2 l l0 l1
  have ha := fdF_is (P := can l) (d := a) (fun d hd => by have := g4 d hd; omega)
  have hb := fdF_is (P := can l) (d := b) (fun d hd => by have := g4 d hd; omega)
  have ba := eo_b hG (day := a) l0 l1
  have bb := eo_b hG (day := b) l0 l1
  unfold eo at *
  rcases hb with ⟨q, q2⟩ | ⟨q, q2, q3⟩
  · rw [if_pos q] at bb ⊢; omega
  · have hq := g4 _ q2
    rcases ha with ⟨k, k2⟩ | ⟨k, k2, k3⟩
    · exact absurd q2 (k2 _ (by omega))
    · have hk := g4 _ k2
      rw [if_neg (by omega), if_neg (by omega)]
      have : fdF (can l) a ≤ fdF (can l) b := by
        refine Classical.byContradiction (fun g => ?_)
        exact k3 (fdF (can l) b) (by omega) (by omega) q2
      omega
theorem eo_stp {can : Int → Int → Prop} {wd : Int → Int} {tr : Int → Int → Int} {n : Int} {r : List (Int × Int)} {x : Int × Int} (h : stp can wd tr n r x) : enR wd (x :: r) = eo can wd x.1 (frr wd tr r x.1) := by
  unfold eo
  rw [← h.2.2.1, if_neg h.2.2.2]
  rfl
theorem stp_eo {can : Int → Int → Prop} {wd : Int → Int} {tr : Int → Int → Int} {n : Int} {r : List (Int × Int)} {l : Int} (h0 : 0 ≤ l ∧ l < n) (h1 : ¬ has r l) (h : eo can wd l (frr wd tr r l) ≠ 1000) : stp can wd tr n r (l, fdF (can l) (frr wd tr r l)) := by
  refine ⟨h0, h1, rfl, fun e => h ?_⟩
  have e : fdF (can l) (frr wd tr r l) = -1 := e
  unfold eo
  rw [if_pos e]
/-- the earliest ends so far: V the steps that are done -/
def eaI (can : Int → Int → Prop) (wd : Int → Int) (tr : Int → Int → Int) (n : Int) (V : Int → Int → Int → Prop) (ea : Int → Int) : Prop :=
  (∀ S l : Int, (0 ≤ S ∧ S < ((2 ^ n.toNat : Nat) : Int)) → (0 ≤ l ∧ l < n) → ea (S * 8 + l) ≠ 1000 → ∃ s, rz can wd tr n s ∧ stR n s S ∧ s ≠ [] ∧ hdR s = l ∧ enR wd s = ea (S * 8 + l)) ∧
  (∀ x, stp can wd tr n [] x → ea (iShl 1 x.1 * 8 + x.1) ≤ enR wd [x]) ∧
  ∀ r S x, rz can wd tr n r → r ≠ [] → stp can wd tr n r x → stR n r S → V S (hdR r) x.1 → ea (iOr S (iShl 1 x.1) * 8 + x.1) ≤ enR wd (x :: r)
theorem eaI_V {can : Int → Int → Prop} {wd : Int → Int} {tr : Int → Int → Int} {n : Int} {V V' : Int → Int → Int → Prop} {ea : Int → Int} (h : eaI can wd tr n V ea) (hV : ∀ S l x : Int, (0 ≤ S ∧ S < ((2 ^ n.toNat : Nat) : Int)) → (0 ≤ l ∧ l < n) → (0 ≤ x ∧ x < n) → V' S l x → V S l x) (hl : ∀ r, rz can wd tr n r → r ≠ [] → 0 ≤ hdR r ∧ hdR r < n) : eaI can wd tr n V' ea :=
  ⟨h.1, h.2.1, fun r S x a b c d e => h.2.2 r S x a b c d (hV S (hdR r) x.1 d.1 (hl r a b) c.1 e)⟩
theorem hd_b {can : Int → Int → Prop} {wd : Int → Int} {tr : Int → Int → Int} {n : Int} (r : List (Int × Int)) (h : rz can wd tr n r) (hr : r ≠ []) : 0 ≤ hdR r ∧ hdR r < n := by
  cases r with
  | nil => exact absurd rfl hr
  | cons x r => exact h.1.1
theorem or_0 {x : Int} (x0 : 0 ≤ x) (x1 : x < 8) : iOr 0 (iShl 1 x) = iShl 1 x := by
  have h : ∀ k : Nat, k < 8 → iOr 0 (iShl 1 (k : Int)) = iShl 1 (k : Int) := by decide
  have := h x.toNat (by omega)
  rwa [zcast x0] at this
/-- what is done of all smaller sets bounds a set's rows -/
theorem eaI_le {can : Int → Int → Prop} {wd pr : Int → Int} {tr : Int → Int → Int} {n : Int} (hG : okG can wd pr tr n) {V : Int → Int → Int → Prop} {ea : Int → Int} (h : eaI can wd tr n V ea) {r : List (Int × Int)} {S : Int} (hr : rz can wd tr n r) (hr0 : r ≠ []) (hS : stR n r S) (hV : ∀ S' l x : Int, 0 ≤ S' → S' < S → (0 ≤ l ∧ l < n) → (0 ≤ x ∧ x < n) → V S' l x) : ea (S * 8 + hdR r) ≤ enR wd r := by
  obtain ⟨⟨n0, n8⟩, -⟩ := id hG
  cases r with
  | nil => exact absurd rfl hr0
  | cons x r =>
    obtain ⟨S', h1, h2, h3⟩ := st_t n0 n8 hS hr.1.1.1 hr.1.1.2 hr.1.2.1
    by_cases e : r = []
    · subst e
      have := h.2.1 x hr.1
      have e0 : S' = 0 := st_u n0 h1 st_0
      rw [h2, e0, or_0 hr.1.1.1 (by have := hr.1.1.2; omega)]
      exact this
    · have := h.2.2 r S' x hr.2 e hr.1 h1 (hV S' (hdR r) x.1 h1.1.1 h3 (hd_b r hr.2 e) hr.1.1)
      rw [h2]
      exact this
/-- one step -/
theorem eaI_s {can : Int → Int → Prop} {wd pr : Int → Int} {tr : Int → Int → Int} {n : Int} (hG : okG can wd pr tr n) {V V' : Int → Int → Int → Prop} {ea ea' : Int → Int} {S l x : Int} (h : eaI can wd tr n V ea) (s0 : 0 ≤ S) (s1 : S < ((2 ^ n.toNat : Nat) : Int)) (l0 : 0 ≤ l ∧ l < n) (x0 : 0 ≤ x ∧ x < n) (hx : tb S x = false) (hne : ea (S * 8 + l) ≠ 1000)
    (he : ea' (iOr S (iShl 1 x) * 8 + x) = min (ea (iOr S (iShl 1 x) * 8 + x)) (eo can wd x (ea (S * 8 + l) + 1 + tr l x))) (ho : ∀ i, i ≠ iOr S (iShl 1 x) * 8 + x → ea' i = ea i)
    (hV : ∀ S' l' x' : Int, V' S' l' x' → V S' l' x' ∨ (S' = S ∧ l' = l ∧ x' = x)) (hVs : ∀ S' l' x' : Int, 0 ≤ S' → S' < S → (0 ≤ l' ∧ l' < n) → (0 ≤ x' ∧ x' < n) → V S' l' x') : eaI can wd tr n V' ea' := by
  obtain ⟨⟨n0, n8⟩, -⟩ := id hG
  have hle : ∀ i, ea' i ≤ ea i := fun i => by
    by_cases e : i = iOr S (iShl 1 x) * 8 + x
    · rw [e, he]; omega
    · rw [ho i e]; exact Int.le_refl _
  refine ⟨fun S' l' hS' hl' hne' => ?_, fun y hy => Int.le_trans (hle _) (h.2.1 y hy), fun r S' y hr hr0 hy hst hv => ?_⟩
  · by_cases e : S' * 8 + l' = iOr S (iShl 1 x) * 8 + x
    · have e1 : l' = x := by omega
      have e2 : S' = iOr S (iShl 1 x) := by omega
      rw [e] at hne' ⊢
      rw [he] at hne' ⊢
      by_cases g : ea (iOr S (iShl 1 x) * 8 + x) ≤ eo can wd x (ea (S * 8 + l) + 1 + tr l x)
      · have em : min (ea (iOr S (iShl 1 x) * 8 + x)) (eo can wd x (ea (S * 8 + l) + 1 + tr l x)) = ea (iOr S (iShl 1 x) * 8 + x) := by omega
        rw [em] at hne' ⊢
        rw [← e] at hne' ⊢
        exact h.1 S' l' hS' hl' hne'
      · have em : min (ea (iOr S (iShl 1 x) * 8 + x)) (eo can wd x (ea (S * 8 + l) + 1 + tr l x)) = eo can wd x (ea (S * 8 + l) + 1 + tr l x) := by omega
        rw [em] at hne' ⊢
        obtain ⟨s, q1, q2, q3, q4, q5⟩ := h.1 S l ⟨s0, s1⟩ l0 hne
        have hf := (frr_en hG q1 x0.1 x0.2).2 q3
        rw [q4, q5] at hf
        rw [← hf.1] at hne' ⊢
        have hst : ¬ has s x := fun q => by
          have := (q2.2 x x0.1 x0.2).mpr q
          rw [hx] at this; cases this
        have hstp := stp_eo x0 hst hne'
        refine ⟨(x, fdF (can x) (frr wd tr s x)) :: s, ⟨hstp, q1⟩, ?_, by simp, e1.symm, eo_stp hstp⟩
        rw [e2]
        exact st_s n0 n8 q2 x0.1 x0.2
    · rw [ho _ e] at hne' ⊢
      exact h.1 S' l' hS' hl' hne'
  · rcases hV _ _ _ hv with hv | ⟨e1, e2, e3⟩
    · exact Int.le_trans (hle _) (h.2.2 r S' y hr hr0 hy hst hv)
    · have hb := eaI_le hG h hr hr0 hst (by rw [e1]; exact hVs)
      rw [e2, e1] at hb
      have hf := (frr_en hG hr hy.1.1 hy.1.2).2 hr0
      have hm := eo_mono hG (l := x) (a := ea (S * 8 + l) + 1 + tr l x) (b := enR wd r + 1 + tr l x) x0.1 x0.2 (by omega)
      rw [eo_stp hy, e3, e1, he, ← e3, hf.1, e2, e3]
      omega
theorem eaI_n {can : Int → Int → Prop} {wd pr : Int → Int} {tr : Int → Int → Int} {n : Int} (hG : okG can wd pr tr n) {V V' : Int → Int → Int → Prop} {ea : Int → Int} {S l : Int} (h : eaI can wd tr n V ea) (hne : ea (S * 8 + l) = 1000)
    (hV : ∀ S' l' x' : Int, V' S' l' x' → V S' l' x' ∨ (S' = S ∧ l' = l)) (hVs : ∀ S' l' x' : Int, 0 ≤ S' → S' < S → (0 ≤ l' ∧ l' < n) → (0 ≤ x' ∧ x' < n) → V S' l' x') : eaI can wd tr n V' ea := by
  refine ⟨h.1, h.2.1, fun r S' y hr hr0 hy hst hv => ?_⟩
  rcases hV _ _ _ hv with hv | ⟨e1, e2⟩
  · exact h.2.2 r S' y hr hr0 hy hst hv
  · have hb := eaI_le hG h hr hr0 hst (by rw [e1]; exact hVs)
    rw [e2, e1, hne] at hb
    have := enR_b hG hr
    omega
theorem eaI_u {can : Int → Int → Prop} {wd pr : Int → Int} {tr : Int → Int → Int} {n : Int} (hG : okG can wd pr tr n) {V V' : Int → Int → Int → Prop} {ea : Int → Int} {S x : Int} (h : eaI can wd tr n V ea) (x0 : 0 ≤ x ∧ x < n) (hx : tb S x = true) (hV : ∀ S' l' x' : Int, V' S' l' x' → V S' l' x' ∨ (S' = S ∧ x' = x)) : eaI can wd tr n V' ea := by
  refine ⟨h.1, h.2.1, fun r S' y hr hr0 hy hst hv => ?_⟩
  rcases hV _ _ _ hv with hv | ⟨e1, e2⟩
  · exact h.2.2 r S' y hr hr0 hy hst hv
  · rw [e1] at hst
    have := (hst.2 x x0.1 x0.2).mp hx
    rw [← e2] at this
    exact absurd this hy.2.1
def eaF (can : Int → Int → Prop) (wd : Int → Int) (tr : Int → Int → Int) (n : Int) (ea : Int → Int) : Prop :=
  (∀ S l : Int, (0 ≤ S ∧ S < ((2 ^ n.toNat : Nat) : Int)) → (0 ≤ l ∧ l < n) → ea (S * 8 + l) ≠ 1000 → ∃ s, rz can wd tr n s ∧ stR n s S ∧ s ≠ [] ∧ hdR s = l ∧ enR wd s = ea (S * 8 + l)) ∧
  ∀ r S, rz can wd tr n r → r ≠ [] → stR n r S → ea (S * 8 + hdR r) ≤ enR wd r
theorem eaI_F {can : Int → Int → Prop} {wd pr : Int → Int} {tr : Int → Int → Int} {n : Int} (hG : okG can wd pr tr n) {ea : Int → Int} (h : eaI can wd tr n (fun _ _ _ => True) ea) : eaF can wd tr n ea := ⟨h.1, fun _ _ a b c => eaI_le hG h a b c (fun _ _ _ _ _ _ _ => trivial)⟩
/-- the best so far over the sets below S0 -/
def fbI (can : Int → Int → Prop) (wd pr : Int → Int) (tr : Int → Int → Int) (n S0 P E : Int) : Prop := (∀ s S, rz can wd tr n s → stR n s S → S < S0 → prR pr s < P ∨ (prR pr s = P ∧ E ≤ enR wd s)) ∧ ∃ s, rz can wd tr n s ∧ prR pr s = P ∧ enR wd s = E
theorem fbI_0 {can : Int → Int → Prop} {wd pr : Int → Int} {tr : Int → Int → Int} {n : Int} (hG : okG can wd pr tr n) : fbI can wd pr tr n 1 0 (-1) := by
  obtain ⟨⟨n0, n8⟩, -⟩ := id hG
  refine ⟨fun s S hs hS h1 => ?_, [], trivial, rfl, rfl⟩
  have e : S = 0 := by have := hS.1.1; omega
  cases s with
  | nil => exact Or.inr ⟨rfl, Int.le_refl _⟩
  | cons x s =>
    have := (hS.2 x.1 hs.1.1.1 hs.1.1.2).mpr (Or.inl rfl)
    rw [e, tb_0] at this; cases this
theorem fbI_s {can : Int → Int → Prop} {wd pr : Int → Int} {tr : Int → Int → Int} {n : Int} (hG : okG can wd pr tr n) {S P E e : Int} {ea : Int → Int} (h : fbI can wd pr tr n S P E) (hea : eaF can wd tr n ea) (s0 : 0 ≤ S) (s1 : S < ((2 ^ n.toNat : Nat) : Int)) (s2 : 1 ≤ S) (h1 : ∀ l : Int, 0 ≤ l → l < n → tb S l = true → e ≤ ea (S * 8 + l)) (h2 : e = 1000 ∨ ∃ l : Int, (0 ≤ l ∧ l < n) ∧ e = ea (S * 8 + l)) :
    ((e ≠ 1000 ∧ (P < psS pr n S ∨ (psS pr n S = P ∧ e < E))) → fbI can wd pr tr n (S + 1) (psS pr n S) e) ∧ (¬ (e ≠ 1000 ∧ (P < psS pr n S ∨ (psS pr n S = P ∧ e < E))) → fbI can wd pr tr n (S + 1) P E) := by
  obtain ⟨⟨n0, n8⟩, -⟩ := id hG
  have key : ∀ s, rz can wd tr n s → stR n s S → prR pr s = psS pr n S ∧ e ≤ enR wd s := fun s hs hS => by
    refine ⟨prR_st hs hS, ?_⟩
    have hs0 : s ≠ [] := fun q => by
      subst q
      have := st_u n0 hS st_0
      omega
    have hb := hd_b s hs hs0
    have ht : tb S (hdR s) = true := (hS.2 _ hb.1 hb.2).mpr (by cases s with | nil => exact absurd rfl hs0 | cons x s => exact Or.inl rfl)
    have := h1 _ hb.1 hb.2 ht
    have := hea.2 s S hs hs0 hS
    omega
  constructor
  · rintro ⟨g1, g2⟩
    refine ⟨fun s S' hs hS hl => ?_, ?_⟩
    · by_cases q : S' = S
      · subst q
        have := key s hs hS
        exact Or.inr this
      · have := h.1 s S' hs hS (by omega)
        omega
    · obtain ⟨l, hl, el⟩ := h2.resolve_left g1
      obtain ⟨s, q1, q2, q3, q4, q5⟩ := hea.1 S l ⟨s0, s1⟩ hl (by rw [← el]; exact g1)
      exact ⟨s, q1, prR_st q1 q2, by rw [q5, el]⟩
  · intro g
    refine ⟨fun s S' hs hS hl => ?_, h.2⟩
    by_cases q : S' = S
    · subst q
      have k := key s hs hS
      have := enR_b hG hs
      rcases Classical.em (e = 1000) with e1 | e1
      · omega
      · omega
    · exact h.1 s S' hs hS (by omega)
/-- the best of all -/
def fbO (can : Int → Int → Prop) (wd pr : Int → Int) (tr : Int → Int → Int) (n P E : Int) : Prop := (∀ s, rz can wd tr n s → prR pr s < P ∨ (prR pr s = P ∧ E ≤ enR wd s)) ∧ ∃ s, rz can wd tr n s ∧ prR pr s = P ∧ enR wd s = E
theorem st_e {can : Int → Int → Prop} {wd pr : Int → Int} {tr : Int → Int → Int} {n : Int} (hG : okG can wd pr tr n) : ∀ s, rz can wd tr n s → ∃ S, stR n s S
  | [], _ => ⟨0, st_0⟩
  | x :: s, h => by
    obtain ⟨S, hS⟩ := st_e hG s h.2
    exact ⟨_, st_s hG.1.1 hG.1.2 hS h.1.1.1 h.1.1.2⟩
theorem fbI_O {can : Int → Int → Prop} {wd pr : Int → Int} {tr : Int → Int → Int} {n : Int} (hG : okG can wd pr tr n) {P E : Int} (h : fbI can wd pr tr n ((2 ^ n.toNat : Nat) : Int) P E) : fbO can wd pr tr n P E := ⟨fun s hs => by
  obtain ⟨S, hS⟩ := st_e hG s hs
  exact h.1 s S hs hS hS.1.2, h.2⟩
/-- the latest ends with which the best can still be had -/
def laO (can : Int → Int → Prop) (wd pr : Int → Int) (tr : Int → Int → Int) (n P E S l v : Int) : Prop := (∀ r, rz can wd tr n r → stR n r S → r ≠ [] → hdR r = l → enR wd r ≤ v → ∃ t, fz can wd tr n t r ∧ prR pr (ct t r) = P ∧ enR wd (ct t r) ≤ E) ∧ ∀ r t, rz can wd tr n r → stR n r S → r ≠ [] → hdR r = l → fz can wd tr n t r → prR pr (ct t r) = P → enR wd (ct t r) ≤ E → enR wd r ≤ v
def leI (can : Int → Int → Prop) (wd pr : Int → Int) (tr : Int → Int → Int) (n P E S l k v : Int) : Prop := (∀ r, rz can wd tr n r → stR n r S → r ≠ [] → hdR r = l → enR wd r ≤ v → ∃ t, fz can wd tr n t r ∧ prR pr (ct t r) = P ∧ enR wd (ct t r) ≤ E) ∧ ∀ r t, rz can wd tr n r → stR n r S → r ≠ [] → hdR r = l → fz can wd tr n t r → prR pr (ct t r) = P → enR wd (ct t r) ≤ E → (t = [] ∨ hdR t < k) → enR wd r ≤ v
theorem leI_0 {can : Int → Int → Prop} {wd pr : Int → Int} {tr : Int → Int → Int} {n : Int} (hG : okG can wd pr tr n) {P E S l : Int} : leI can wd pr tr n P E S l 0 (if psS pr n S = P then E else -1) := by
  refine ⟨fun r hr hS h0 hl hv => ?_, fun r t hr hS h0 hl ht hp he hh => ?_⟩
  · by_cases q : psS pr n S = P
    · rw [if_pos q] at hv
      exact ⟨[], trivial, (prR_st hr hS).trans q, hv⟩
    · rw [if_neg q] at hv
      have := ((frr_en hG hr (l := hdR r) (hd_b r hr h0).1 (hd_b r hr h0).2).2 h0).2.1
      omega
  · rcases hh with hh | hh
    · subst hh
      have e : psS pr n S = P := (prR_st hr hS).symm.trans hp
      rw [if_pos e]
      exact he
    · cases t with
      | nil =>
        have e : psS pr n S = P := (prR_st hr hS).symm.trans hp
        rw [if_pos e]
        exact he
      | cons x t =>
        have h1 : x.1 < 0 := hh
        have := ht.1.1.1
        omega
theorem leI_O {can : Int → Int → Prop} {wd pr : Int → Int} {tr : Int → Int → Int} {n P E S l v : Int} (h : leI can wd pr tr n P E S l n v) : laO can wd pr tr n P E S l v := ⟨h.1, fun r t a b c d e f g => h.2 r t a b c d e f g (by
  cases t with
  | nil => exact Or.inl rfl
  | cons x t => exact Or.inr e.1.1.2)⟩
theorem leI_u {can : Int → Int → Prop} {wd pr : Int → Int} {tr : Int → Int → Int} {n P E S l k v : Int} (h : leI can wd pr tr n P E S l k v) (k0 : 0 ≤ k ∧ k < n) (hk : tb S k = true) : leI can wd pr tr n P E S l (k + 1) v := ⟨h.1, fun r t a b c d e f g hh => h.2 r t a b c d e f g (by
  cases t with
  | nil => exact Or.inl rfl
  | cons x t =>
    rcases hh with hh | hh
    · exact Or.inl hh
    · have h1 : x.1 < k + 1 := hh
      by_cases q : x.1 = k
      · exact absurd ((b.2 k k0.1 k0.2).mp hk) (by rw [← q]; exact e.1.2.1)
      · exact Or.inr (show x.1 < k by omega))⟩
/-- the last day up to b on which it can be begun -/
def luR (P : Int → Prop) (b v : Int) : Prop := (v = -1 ∧ ∀ d : Int, 0 ≤ d → d ≤ b → ¬ P d) ∨ ((0 ≤ v ∧ v ≤ b) ∧ P v ∧ ∀ d : Int, v < d → d ≤ b → ¬ P d)
theorem leI_s {can : Int → Int → Prop} {wd pr : Int → Int} {tr : Int → Int → Int} {n : Int} (hG : okG can wd pr tr n) {P E S l k v a bg v' : Int} (h : leI can wd pr tr n P E S l k v) (k0 : 0 ≤ k ∧ k < n) (hk : tb S k = false) (hla : laO can wd pr tr n P E (iOr S (iShl 1 k)) k a)
    (hb : luR (can k) (a - wd k + 1) bg) (hv : v' = if bg = -1 then v else max v (bg - 1 - tr l k)) : leI can wd pr tr n P E S l (k + 1) v' := by
  obtain ⟨⟨n0, n8⟩, -⟩ := id hG
  obtain ⟨g1, g2, g3, g4⟩ := hG.2 k k0.1 k0.2
  have hnh : ∀ r, stR n r S → ¬ has r k := fun r hS q => by
    have := (hS.2 k k0.1 k0.2).mpr q
    rw [hk] at this; cases this
  refine ⟨fun r hr hS h0 hl hle => ?_, fun r t hr hS h0 hl ht hp he hh => ?_⟩
  · by_cases q : enR wd r ≤ v
    · exact h.1 r hr hS h0 hl q
    · have hbg : bg ≠ -1 := fun e => by rw [if_pos e] at hv; omega
      rw [if_neg hbg] at hv
      rcases hb with ⟨b1, -⟩ | ⟨⟨b1, b2⟩, b3, -⟩
      · exact absurd b1 hbg
      have hf := (frr_en hG hr k0.1 k0.2).2 h0
      rw [hl] at hf
      have hfd := fdF_is (P := can k) (d := frr wd tr r k) (fun d hd => by have := g4 d hd; omega)
      rcases hfd with ⟨f1, f2⟩ | ⟨f1, f2, f3⟩
      · exact absurd b3 (f2 bg (by omega))
      · have hle2 : fdF (can k) (frr wd tr r k) ≤ bg := Classical.byContradiction (fun g => f3 bg (by omega) (by omega) b3)
        have hst : stp can wd tr n r (k, fdF (can k) (frr wd tr r k)) := ⟨k0, hnh r hS, rfl, by have := g4 _ f2; show fdF (can k) (frr wd tr r k) ≠ -1; omega⟩
        obtain ⟨t, t1, t2, t3⟩ := hla.1 ((k, fdF (can k) (frr wd tr r k)) :: r) ⟨hst, hr⟩ (st_s n0 n8 hS k0.1 k0.2) (by simp) rfl (by show fdF (can k) (frr wd tr r k) + wd k - 1 ≤ a; omega)
        exact ⟨(k, fdF (can k) (frr wd tr r k)) :: t, ⟨hst, t1⟩, t2, t3⟩
  · have hvv : v ≤ v' := by
      rw [hv]; split <;> omega
    cases t with
    | nil => have := h.2 r [] hr hS h0 hl ht hp he (Or.inl rfl); omega
    | cons x t =>
      rcases hh with hh | hh
      · cases hh
      · have h1 : x.1 < k + 1 := hh
        by_cases q : x.1 = k
        · have hst := ht.1
          have hd := stp_d hG hst
          have h3 := hla.2 (x :: r) t ⟨hst, hr⟩ (by rw [← q]; exact st_s n0 n8 hS hst.1.1 hst.1.2) (by simp) q ht.2 hp he
          have h4 : x.2 + wd x.1 - 1 ≤ a := h3
          have hf := (frr_en hG hr k0.1 k0.2).2 h0
          rw [hl] at hf
          rw [q] at hd h4
          rcases hb with ⟨b1, b2⟩ | ⟨⟨b1, b2⟩, b3, b4⟩
          · exact absurd hd.2.1 (b2 x.2 (by omega) (by omega))
          · have hle2 : x.2 ≤ bg := Classical.byContradiction (fun g => b4 x.2 (by omega) (by omega) hd.2.1)
            rw [hv, if_neg (by omega)]
            omega
        · have := h.2 r (x :: t) hr hS h0 hl ht hp he (Or.inr (show x.1 < k by omega))
          omega
/-- the row that is taken: R forwards, r backwards -/
def frI (can : Int → Int → Prop) (wd pr : Int → Int) (tr : Int → Int → Int) (n P E : Int) (R r : List (Int × Int)) : Prop := fz can wd tr n R [] ∧ ct R [] = r ∧ (∃ t, fz can wd tr n t r ∧ prR pr (ct t r) = P ∧ enR wd (ct t r) ≤ E) ∧ ∀ t, fz can wd tr n t [] → prR pr (ct t []) = P → enR wd (ct t []) ≤ E → (∃ u, t = R ++ u) ∨ ∀ v, pz (R ++ v) t
theorem frI_0 {can : Int → Int → Prop} {wd pr : Int → Int} {tr : Int → Int → Int} {n P E : Int} (h : fbO can wd pr tr n P E) : frI can wd pr tr n P E [] [] := by
  obtain ⟨s, h1, h2, h3⟩ := h.2
  obtain ⟨t, t1, t2⟩ := rz_fz s h1
  exact ⟨trivial, rfl, ⟨t, t1, by rw [t2]; exact h2, by rw [t2]; omega⟩, fun t _ _ _ => Or.inl ⟨t, rfl⟩⟩
theorem frI_rz {can : Int → Int → Prop} {wd pr : Int → Int} {tr : Int → Int → Int} {n P E : Int} {R r : List (Int × Int)} (h : frI can wd pr tr n P E R r) : rz can wd tr n r := by
  rw [← h.2.1]; exact rz_ct (r := []) trivial h.1
/-- a letter that isn't taken: nothing good goes on with it -/
theorem fr_no {can : Int → Int → Prop} {wd pr : Int → Int} {tr : Int → Int → Int} {n : Int} (hG : okG can wd pr tr n) {P E S k a : Int} {r : List (Int × Int)} (hr : rz can wd tr n r) (hS : stR n r S) (k0 : 0 ≤ k ∧ k < n) (hla : laO can wd pr tr n P E (iOr S (iShl 1 k)) k a) (h : tb S k = true ∨ a < eo can wd k (frr wd tr r k)) : ∀ t, fz can wd tr n t r → prR pr (ct t r) = P → enR wd (ct t r) ≤ E → hdR t ≠ k := by
  obtain ⟨⟨n0, n8⟩, -⟩ := id hG
  intro t ht hp he q
  cases t with
  | nil => have : (-1 : Int) = k := q; omega
  | cons x t =>
    have q : x.1 = k := q
    rcases h with h | h
    · exact ht.1.2.1 (by rw [q]; exact (hS.2 k k0.1 k0.2).mp h)
    · have h3 := hla.2 (x :: r) t ⟨ht.1, hr⟩ (by rw [← q]; exact st_s n0 n8 hS ht.1.1.1 ht.1.1.2) (by simp) q ht.2 hp he
      rw [eo_stp ht.1, q] at h3
      omega
theorem fr_s {can : Int → Int → Prop} {wd pr : Int → Int} {tr : Int → Int → Int} {n : Int} (hG : okG can wd pr tr n) {P E S k a : Int} {R r : List (Int × Int)} (h : frI can wd pr tr n P E R r) (hS : stR n r S) (k0 : 0 ≤ k ∧ k < n) (hk : tb S k = false) (hla : laO can wd pr tr n P E (iOr S (iShl 1 k)) k a) (a1 : a < 1000) (ha : eo can wd k (frr wd tr r k) ≤ a) (hP : psS pr n S ≠ P)
    (hno : ∀ j : Int, 0 ≤ j → j < k → ∀ t, fz can wd tr n t r → prR pr (ct t r) = P → enR wd (ct t r) ≤ E → hdR t ≠ j) : stp can wd tr n r (k, fdF (can k) (frr wd tr r k)) ∧ frI can wd pr tr n P E (R ++ [(k, fdF (can k) (frr wd tr r k))]) ((k, fdF (can k) (frr wd tr r k)) :: r) ∧ enR wd ((k, fdF (can k) (frr wd tr r k)) :: r) = eo can wd k (frr wd tr r k) := by
  obtain ⟨⟨n0, n8⟩, -⟩ := id hG
  have hr := frI_rz h
  have hst : stp can wd tr n r (k, fdF (can k) (frr wd tr r k)) := stp_eo k0 (fun q => by
    have := (hS.2 k k0.1 k0.2).mpr q
    rw [hk] at this; cases this) (by omega)
  have hen := eo_stp hst
  refine ⟨hst, ⟨(fz_app R _ []).mpr ⟨h.1, by rw [h.2.1]; exact ⟨hst, trivial⟩⟩, by rw [ct_app, h.2.1]; rfl, ?_, fun t ht hp he => ?_⟩, hen⟩
  · exact hla.1 _ ⟨hst, hr⟩ (st_s n0 n8 hS k0.1 k0.2) (by simp) rfl (by rw [hen]; exact ha)
  · rcases h.2.2.2 t ht hp he with ⟨u, hu⟩ | hv
    · rw [hu, ct_app, h.2.1] at hp he
      have hfu : fz can wd tr n u r := by
        have := ht
        rw [hu] at this
        have := ((fz_app R u []).mp this).2
        rw [h.2.1] at this
        exact this
      cases u with
      | nil => exact absurd ((prR_st hr hS).symm.trans hp) hP
      | cons y u =>
        have hy := hfu.1.1
        have hn := hno y.1 hy.1
        rcases Int.lt_trichotomy y.1 k with g | g | g
        · exact absurd rfl (hn g (y :: u) hfu hp he)
        · have e : y = (k, fdF (can k) (frr wd tr r k)) := Prod.ext g (by rw [hfu.1.2.2.1, g])
          refine Or.inl ⟨u, ?_⟩
          rw [hu, e, List.append_assoc]; rfl
        · refine Or.inr (fun v => ?_)
          rw [hu, List.append_assoc]
          exact pz_app R (Or.inl g)
    · refine Or.inr (fun v => ?_)
      rw [List.append_assoc]
      exact hv _
theorem fr_ex {can : Int → Int → Prop} {wd pr : Int → Int} {tr : Int → Int → Int} {n : Int} {P E S : Int} {R r : List (Int × Int)} (h : frI can wd pr tr n P E R r) (hS : stR n r S) (hP : psS pr n S ≠ P) : ∃ t, fz can wd tr n t r ∧ prR pr (ct t r) = P ∧ enR wd (ct t r) ≤ E ∧ 0 ≤ hdR t ∧ hdR t < n ∧ ¬ has r (hdR t) := by
  obtain ⟨t, h1, h2, h3⟩ := h.2.2.1
  have hr := frI_rz h
  cases t with
  | nil => exact absurd ((prR_st hr hS).symm.trans h2) hP
  | cons x t => exact ⟨x :: t, h1, h2, h3, h1.1.1.1, h1.1.1.2, h1.1.2.1⟩
theorem fr_z {can : Int → Int → Prop} {wd pr : Int → Int} {tr : Int → Int → Int} {n : Int} (hG : okG can wd pr tr n) {P E S : Int} {R r : List (Int × Int)} (hb : fbO can wd pr tr n P E) (h : frI can wd pr tr n P E R r) (hS : stR n r S) (hP : psS pr n S = P) : bz can wd pr tr n R ∧ prR pr r = P ∧ enR wd r = E := by
  have hr := frI_rz h
  have hp : prR pr r = P := (prR_st hr hS).trans hP
  obtain ⟨t, h1, h2, h3⟩ := h.2.2.1
  have h4 := enR_ct hG hr h1
  have he : enR wd r = E := by
    rcases hb.1 r hr with q | q
    · omega
    · omega
  refine ⟨⟨h.1, fun u hu => ?_⟩, hp, he⟩
  rw [h.2.1, hp, he]
  have hru : rz can wd tr n (ct u []) := rz_ct (r := []) trivial hu
  rcases hb.1 _ hru with q | ⟨q1, q2⟩
  · exact Or.inl q
  · refine Or.inr ⟨q1, ?_⟩
    by_cases g : E < enR wd (ct u [])
    · exact Or.inl g
    · refine Or.inr ⟨by omega, ?_⟩
      rcases h.2.2.2 u hu q1 (by omega) with ⟨v, hv⟩ | hv
      · cases v with
        | nil => exact Or.inl (by rw [hv, List.append_nil])
        | cons y v =>
          refine Or.inr ?_
          have : pz (R ++ []) (R ++ y :: v) := pz_app R trivial
          rw [List.append_nil] at this
          rw [hv]; exact this
      · have := hv []
        rw [List.append_nil] at this
        exact Or.inr this
theorem has_n {can : Int → Int → Prop} {wd : Int → Int} {tr : Int → Int → Int} {n : Int} : ∀ (r : List (Int × Int)), rz can wd tr n r → ((r.length : Nat) : Int) = zsum n.toNat (fun k => @ite Int (has r k) (Classical.propDecidable _) 1 0) := fun r h => by
  have h1 := prR_sum (pr := fun _ => 1) r h (fun k => @ite Int (has r k) (Classical.propDecidable _) 1 0) (fun k _ hh => if_pos hh) (fun k _ hh => if_neg hh)
  rw [h1]
  clear h1 h
  induction r with
  | nil => rfl
  | cons x r ih =>
    show ((r.length + 1 : Nat) : Int) = 1 + prR (fun _ => 1) r
    omega
theorem len_n {can : Int → Int → Prop} {wd : Int → Int} {tr : Int → Int → Int} {n : Int} (n0 : 0 ≤ n) {r : List (Int × Int)} (h : rz can wd tr n r) : ((r.length : Nat) : Int) ≤ n := by
  rw [has_n r h]
  have := zsum_b (f := fun k : Nat => @ite Int (has r k) (Classical.propDecidable _) 1 0) (B := 1) n.toNat (fun k _ => by split <;> omega)
  omega
/-- arrays that hold a row -/
def arR (a b : Int → Int) : List (Int × Int) → Prop
  | [] => True
  | x :: r => a ((r.length : Nat) : Int) = x.1 ∧ b ((r.length : Nat) : Int) = x.2 ∧ arR a b r
theorem arR_c {a b a' b' : Int → Int} : ∀ {r : List (Int × Int)}, (∀ i : Int, 0 ≤ i → i < ((r.length : Nat) : Int) → a i = a' i ∧ b i = b' i) → arR a b r → arR a' b' r
  | [], _, _ => trivial
  | x :: r, h, k => by
    have e : (((x :: r).length : Nat) : Int) = ((r.length : Nat) : Int) + 1 := by simp
    have h0 := h ((r.length : Nat) : Int) (by omega) (by omega)
    exact ⟨h0.1 ▸ k.1, h0.2 ▸ k.2.1, arR_c (fun i i0 i1 => h i i0 (by omega)) k.2.2⟩
theorem arR_u {a b a' b' : Int → Int} : ∀ {r : List (Int × Int)}, arR a b r → arR a' b' r → ∀ i : Int, 0 ≤ i → i < ((r.length : Nat) : Int) → a i = a' i ∧ b i = b' i
  | [], _, _, i, i0, i1 => by have : i < 0 := i1; omega
  | x :: r, h, k, i, i0, i1 => by
    have e : (((x :: r).length : Nat) : Int) = ((r.length : Nat) : Int) + 1 := by simp
    by_cases q : i = ((r.length : Nat) : Int)
    · rw [q]; exact ⟨h.1.trans k.1.symm, h.2.1.trans k.2.1.symm⟩
    · exact arR_u h.2.2 k.2.2 i i0 (by omega)
theorem arR_b {can : Int → Int → Prop} {wd pr : Int → Int} {tr : Int → Int → Int} {n : Int} (hG : okG can wd pr tr n) {a b : Int → Int} : ∀ {r : List (Int × Int)}, rz can wd tr n r → arR a b r → ∀ i : Int, 0 ≤ i → i < ((r.length : Nat) : Int) → (0 ≤ a i ∧ a i < n) ∧ 0 ≤ b i ∧ b i + wd (a i) ≤ 30
  | [], _, _, i, i0, i1 => by have : i < 0 := i1; omega
  | x :: r, h, k, i, i0, i1 => by
    have e : (((x :: r).length : Nat) : Int) = ((r.length : Nat) : Int) + 1 := by simp
    by_cases q : i = ((r.length : Nat) : Int)
    · have hd := stp_d hG h.1
      rw [q, k.1, k.2.1]
      exact ⟨h.1.1, by omega, by omega⟩
    · exact arR_b hG h.2 k.2.2 i i0 (by omega)
/-- trying all: what is better than P, E -/
def btR (wd pr : Int → Int) (s : List (Int × Int)) (P E : Int) : Prop := P < prR pr s ∨ (prR pr s = P ∧ enR wd s < E)
/-- t is the best of V behind r -/
def beV (can : Int → Int → Prop) (wd pr : Int → Int) (tr : Int → Int → Int) (n : Int) (V : List (Int × Int) → Prop) (r t : List (Int × Int)) : Prop := ∀ u, V u → fz can wd tr n u r → prR pr (ct u r) < prR pr (ct t r) ∨ (prR pr (ct u r) = prR pr (ct t r) ∧ (enR wd (ct t r) < enR wd (ct u r) ∨ (enR wd (ct t r) = enR wd (ct u r) ∧ (u = t ∨ pz t u))))
def Vk (k : Int) (t : List (Int × Int)) : Prop := t = [] ∨ hdR t < k
/-- what has become of it: nothing (sm), or a row that is the best of V (A) -/
def goV (can : Int → Int → Prop) (wd pr : Int → Int) (tr : Int → Int → Int) (n : Int) (V : List (Int × Int) → Prop) (r : List (Int × Int)) (pm P E : Int) (sm : Prop) (A : List (Int × Int) → Prop) : Prop := (sm ∧ pm ≠ -1 ∧ ∀ t, V t → fz can wd tr n t r → ¬ btR wd pr (ct t r) P E) ∨ ∃ t, V t ∧ fz can wd tr n t r ∧ A (ct t r) ∧ (pm = -1 ∨ btR wd pr (ct t r) P E) ∧ beV can wd pr tr n V r t
theorem goV_no {can : Int → Int → Prop} {wd pr : Int → Int} {tr : Int → Int → Int} {n : Int} {r : List (Int × Int)} {k pm P E : Int} {sm : Prop} {A : List (Int × Int) → Prop} (h : goV can wd pr tr n (Vk k) r pm P E sm A) (hn : ∀ d, ¬ stp can wd tr n r (k, d)) : goV can wd pr tr n (Vk (k + 1)) r pm P E sm A := by
  have hV : ∀ t, Vk (k + 1) t → fz can wd tr n t r → Vk k t := fun t hv hf => by
    cases t with
    | nil => exact Or.inl rfl
    | cons x t =>
      rcases hv with hv | hv
      · cases hv
      · have h1 : x.1 < k + 1 := hv
        by_cases q : x.1 = k
        · exact absurd hf.1 (by have := hn x.2; rw [← q] at this; exact this)
        · exact Or.inr (show x.1 < k by omega)
  rcases h with ⟨h1, h2, h3⟩ | ⟨t, h1, h2, h3, h4, h5⟩
  · exact Or.inl ⟨h1, h2, fun t hv hf => h3 t (hV t hv hf) hf⟩
  · exact Or.inr ⟨t, h1.imp id (fun q => by omega), h2, h3, h4, fun u hv hf => h5 u (hV u hv hf) hf⟩
theorem goV_s {can : Int → Int → Prop} {wd pr : Int → Int} {tr : Int → Int → Int} {n : Int} {r : List (Int × Int)} {k d pm P E pm1 P1 E1 : Int} {sm sm1 sm2 : Prop} {A A1 : List (Int × Int) → Prop} (h : goV can wd pr tr n (Vk k) r pm P E sm A) (hst : stp can wd tr n r (k, d)) (g : goV can wd pr tr n (fun _ => True) ((k, d) :: r) pm1 P1 E1 sm1 A1)
    (e1 : sm → sm1 → sm2) (e2 : sm → pm1 = pm ∧ P1 = P ∧ E1 = E) (e3 : ∀ s, A s → pm1 ≠ -1 ∧ P1 = prR pr s ∧ E1 = enR wd s) (e4 : ∀ s, A s → sm1 → A1 s) : goV can wd pr tr n (Vk (k + 1)) r pm P E sm2 A1 := by
  have hx : ∀ x : Int × Int, x.1 = k → stp can wd tr n r x → x = (k, d) := fun x q hs => Prod.ext q (by rw [hs.2.2.1, hst.2.2.1, q])
  have hV : ∀ u, Vk (k + 1) u → fz can wd tr n u r → Vk k u ∨ ∃ v, u = (k, d) :: v ∧ fz can wd tr n v ((k, d) :: r) := fun u hv hf => by
    cases u with
    | nil => exact Or.inl (Or.inl rfl)
    | cons x u =>
      rcases hv with hv | hv
      · cases hv
      · have h1 : x.1 < k + 1 := hv
        by_cases q : x.1 = k
        · have := hx x q hf.1
          subst this
          exact Or.inr ⟨u, rfl, hf.2⟩
        · exact Or.inl (Or.inr (show x.1 < k by omega))
  have hW : ∀ t, Vk k t → Vk (k + 1) t := fun t h => h.imp id (fun q => by omega)
  rcases h with ⟨h1, h2, h3⟩ | ⟨t, h1, h2, h3, h4, h5⟩ <;> rcases g with ⟨g1, g2, g3⟩ | ⟨t', g1, g2, g3, g4, g5⟩
  · obtain ⟨q1, q2, q3⟩ := e2 h1
    refine Or.inl ⟨e1 h1 g1, h2, fun u hv hf => ?_⟩
    rcases hV u hv hf with hu | ⟨v, rfl, hfv⟩
    · exact h3 u hu hf
    · have := g3 v trivial hfv
      rw [q2, q3] at this
      exact this
  · obtain ⟨q1, q2, q3⟩ := e2 h1
    have hb := g4.resolve_left (by omega)
    rw [q2, q3] at hb
    refine Or.inr ⟨(k, d) :: t', Or.inr (show k < k + 1 by omega), ⟨hst, g2⟩, g3, Or.inr hb, fun u hv hf => ?_⟩
    rcases hV u hv hf with hu | ⟨v, rfl, hfv⟩
    · have hn := h3 u hu hf
      have hb2 : btR wd pr (ct ((k, d) :: t') r) P E := hb
      unfold btR at hn hb2
      omega
    · rcases g5 v trivial hfv with q | ⟨q, p | ⟨p, o⟩⟩
      · exact Or.inl q
      · exact Or.inr ⟨q, Or.inl p⟩
      · refine Or.inr ⟨q, Or.inr ⟨p, ?_⟩⟩
        rcases o with o | o
        · exact Or.inl (by rw [o])
        · exact Or.inr (Or.inr ⟨rfl, o⟩)
  · obtain ⟨q1, q2, q3⟩ := e3 _ h3
    refine Or.inr ⟨t, hW t h1, h2, e4 _ h3 g1, h4, fun u hv hf => ?_⟩
    rcases hV u hv hf with hu | ⟨v, rfl, hfv⟩
    · exact h5 u hu hf
    · have hn := g3 v trivial hfv
      rw [q2, q3] at hn
      have hn2 : ¬ btR wd pr (ct ((k, d) :: v) r) (prR pr (ct t r)) (enR wd (ct t r)) := hn
      unfold btR at hn2
      have hpz : pz t ((k, d) :: v) := by
        cases t with
        | nil => trivial
        | cons y t =>
          rcases h1 with h1 | h1
          · cases h1
          · exact Or.inl h1
      by_cases q : prR pr (ct ((k, d) :: v) r) < prR pr (ct t r)
      · exact Or.inl q
      · refine Or.inr ⟨by omega, ?_⟩
        by_cases p : enR wd (ct t r) < enR wd (ct ((k, d) :: v) r)
        · exact Or.inl p
        · exact Or.inr ⟨by omega, Or.inr hpz⟩
  · obtain ⟨q1, q2, q3⟩ := e3 _ h3
    have hb := g4.resolve_left q1
    rw [q2, q3] at hb
    have hb2 : btR wd pr (ct ((k, d) :: t') r) (prR pr (ct t r)) (enR wd (ct t r)) := hb
    refine Or.inr ⟨(k, d) :: t', Or.inr (show k < k + 1 by omega), ⟨hst, g2⟩, g3, h4.imp id (fun q => ?_), fun u hv hf => ?_⟩
    · unfold btR at q hb2 ⊢; omega
    · rcases hV u hv hf with hu | ⟨v, rfl, hfv⟩
      · have h6 := h5 u hu hf
        unfold btR at hb2
        rcases h6 with h6 | ⟨h6, h7 | ⟨h7, -⟩⟩ <;> omega
      · rcases g5 v trivial hfv with q | ⟨q, p | ⟨p, o⟩⟩
        · exact Or.inl q
        · exact Or.inr ⟨q, Or.inl p⟩
        · refine Or.inr ⟨q, Or.inr ⟨p, ?_⟩⟩
          rcases o with o | o
          · exact Or.inl (by rw [o])
          · exact Or.inr (Or.inr ⟨rfl, o⟩)
theorem goV_e {can : Int → Int → Prop} {wd pr : Int → Int} {tr : Int → Int → Int} {n : Int} {r : List (Int × Int)} {pm P E : Int} {sm : Prop} {A : List (Int × Int) → Prop} (h : goV can wd pr tr n (Vk n) r pm P E sm A) : goV can wd pr tr n (fun _ => True) r pm P E sm A := by
  have hV : ∀ t, fz can wd tr n t r → Vk n t := fun t hf => by
    cases t with
    | nil => exact Or.inl rfl
    | cons x t => exact Or.inr hf.1.1.2
  rcases h with ⟨h1, h2, h3⟩ | ⟨t, h1, h2, h3, h4, h5⟩
  · exact Or.inl ⟨h1, h2, fun t _ hf => h3 t (hV t hf) hf⟩
  · exact Or.inr ⟨t, trivial, h2, h3, h4, fun u _ hf => h5 u (hV u hf) hf⟩
theorem goV_0 {can : Int → Int → Prop} {wd pr : Int → Int} {tr : Int → Int → Int} {n : Int} {r : List (Int × Int)} {pm P E : Int} {sm : Prop} {A : List (Int × Int) → Prop} (h1 : (pm = -1 ∨ btR wd pr r P E) → A r) (h2 : ¬ (pm = -1 ∨ btR wd pr r P E) → sm) : goV can wd pr tr n (Vk 0) r pm P E sm A := by
  have hV : ∀ t, Vk 0 t → fz can wd tr n t r → t = [] := fun t hv hf => by
    cases t with
    | nil => rfl
    | cons x t =>
      rcases hv with hv | hv
      · exact hv
      · have := hf.1.1.1
        have h : x.1 < 0 := hv
        omega
  by_cases q : pm = -1 ∨ btR wd pr r P E
  · exact Or.inr ⟨[], Or.inl rfl, trivial, h1 q, q, fun u hv hf => by rw [hV u hv hf]; exact Or.inr ⟨rfl, Or.inr ⟨rfl, Or.inl rfl⟩⟩⟩
  · exact Or.inl ⟨h2 q, fun e => q (Or.inl e), fun t hv hf => by rw [hV t hv hf]; exact fun g => q (Or.inr g)⟩
