/-! THE TWO SIDES: yards alike, and what follows for letters, travel, nests, plans -/
def sYd (t : Nat) (w : zW) : Prop := ∃ Y, yC w t Y ∧ mT w Y ∧ okY Y
theorem mT_c {w w' : zW} {Y : zW} (h : mT w Y) (k : ∀ c x, 75 ≤ c → c ≤ 83 → w' c x = w c x) : mT w' Y := by
  obtain ⟨⟨a0, a1, a2, a3⟩, b1, b2, b3, b4, b5⟩ := h
  refine ⟨⟨?_, ?_, ?_, ?_⟩, fun c x y => ?_, fun c x y => ?_, fun c x y => ?_, fun c x y => ?_, fun c x y => ?_⟩
  all_goals rw [k _ _ (by omega) (by omega)]
  · exact a0
  · exact a1
  · exact a2
  · exact a3
  · exact b1 c x y
  · exact b2 c x y
  · exact b3 c x y
  · exact b4 c x y
  · exact b5 c x y
/-- a refused text leaves the yard that is told -/
theorem mT_lo {w w' : zW} {Y : zW} (hY : okY Y) (h : mT w Y) (k : ∀ c x, 75 ≤ c → c ≤ 83 → x < loB c → w' c x = w c x) : mT w' Y := by
  obtain ⟨⟨a0, a1, a2, a3⟩, b1, b2, b3, b4, b5⟩ := h
  obtain ⟨u0, u1, u2, u3, -⟩ := hY
  refine ⟨⟨?_, ?_, ?_, ?_⟩, fun c x y => ?_, fun c x y => ?_, fun c x y => ?_, fun c x y => ?_, fun c x y => ?_⟩
  · rw [k _ _ (by omega) (by omega) (by unfold loB; simp)]; exact a0
  · rw [k _ _ (by omega) (by omega) (by unfold loB; simp)]; exact a1
  · rw [k _ _ (by omega) (by omega) (by unfold loB; simp)]; exact a2
  · rw [k _ _ (by omega) (by omega) (by unfold loB; simp)]; exact a3
  · rw [k _ _ (by omega) (by omega) (by unfold loB; simp; omega)]; exact b1 c x y
  · rw [k _ _ (by omega) (by omega) (by unfold loB; simp; omega)]; exact b2 c x y
  · rw [k _ _ (by omega) (by omega) (by unfold loB; simp; omega)]; exact b3 c x y
  · rw [k _ _ (by omega) (by omega) (by unfold loB; simp; omega)]; exact b4 c x y
  · rw [k _ _ (by omega) (by omega) (by unfold loB; simp; omega)]; exact b5 c x y
theorem sYd_k {t : Nat} {w w' : zW} (h : sYd t w) (k : ∀ c x, (t ≤ c ∧ c ≤ t + 5) ∨ (75 ≤ c ∧ c ≤ 83) → w' c x = w c x) : sYd t w' := by
  obtain ⟨Y, h1, h2, h3⟩ := h
  exact ⟨Y, yC_c h1 (fun c x a b => k c x (Or.inl ⟨a, b⟩)), mT_c h2 (fun c x a b => k c x (Or.inr ⟨a, b⟩)), h3⟩
theorem sYd_n {t : Nat} {w : zW} (h : sYd t w) : (w 75 0 = w t 5 ∧ w 76 0 = w t 7 ∧ w 77 0 = w t 6 ∧ w 78 0 = w t 8) ∧ (0 ≤ w t 5 ∧ w t 5 ≤ 12) ∧ (0 ≤ w t 7 ∧ w t 7 ≤ 8) ∧ (0 ≤ w t 6 ∧ w t 6 ≤ 30) ∧ (0 ≤ w t 8 ∧ w t 8 ≤ 12) := by
  obtain ⟨Y, ⟨⟨a0, a1, a2, a3⟩, -⟩, ⟨⟨b0, b1, b2, b3⟩, -⟩, u0, u1, u2, u3, -⟩ := h
  rw [a0, a1, a2, a3]
  exact ⟨⟨b0, b1, b2, b3⟩, u0, u1, u2, u3⟩
theorem sYd_h {t : Nat} {w : zW} (h : sYd t w) {c : Int} (c0 : 0 ≤ c) (c1 : c < w t 5) : w 79 c = w (t + 1) c ∧ 1 ≤ w (t + 1) c ∧ w (t + 1) c ≤ 200 := by
  obtain ⟨Y, ⟨⟨a0, -⟩, a4, -⟩, ⟨-, b4, -⟩, -, -, -, -, u4, -⟩ := h
  rw [a0] at c1
  rw [a4 c c0 c1, b4 c c0 c1]
  exact ⟨rfl, u4 c c0 c1⟩
theorem sYd_w {t : Nat} {w : zW} (h : sYd t w) {d : Int} (d0 : 0 ≤ d) (d1 : d < 30) : w 80 d = w (t + 3) d ∧ 0 ≤ w (t + 3) d ∧ w (t + 3) d ≤ 13 := by
  obtain ⟨Y, ⟨-, -, a4, -⟩, ⟨-, -, b4, -⟩, -, -, -, -, -, u4, -⟩ := h
  rw [a4 d d0 d1, b4 d d0 d1]
  exact ⟨rfl, u4 d d0 d1⟩
theorem sYd_l {t : Nat} {w : zW} (h : sYd t w) {i : Int} (d0 : 0 ≤ i) (d1 : i < 6 * w t 7) : w 81 i = w (t + 4) i := by
  obtain ⟨Y, ⟨⟨-, a1, -⟩, -, -, a4, -⟩, ⟨-, -, -, b4, -⟩, -⟩ := h
  rw [a1] at d1
  rw [a4 i d0 d1, b4 i d0 d1]
theorem sYd_ll {t : Nat} {w : zW} (h : sYd t w) {l k : Int} (l0 : 0 ≤ l) (l1 : l < w t 7) (k0 : 0 ≤ k) (k1 : k < 6) : w 81 (6 * l + k) = w (t + 4) (l * 6 + k) := by
  rw [sYd_l h (by omega) (by omega), show 6 * l + k = l * 6 + k by omega]
theorem sYd_l0 {t : Nat} {w : zW} (h : sYd t w) {l : Int} (l0 : 0 ≤ l) (l1 : l < w t 7) : w 81 (6 * l) = w (t + 4) (l * 6) := by
  rw [sYd_l h (by omega) (by omega), show 6 * l = l * 6 by omega]
theorem sYd_t {t : Nat} {w : zW} (h : sYd t w) {a b : Int} (a0 : 0 ≤ a) (a1 : a < 12) (b0 : 0 ≤ b) (b1 : b < 12) : w 82 (12 * a + b) = yTrav w t a b ∧ 0 ≤ yTrav w t a b ∧ yTrav w t a b ≤ 9 := by
  obtain ⟨Y, ⟨-, -, -, -, a4, -⟩, ⟨-, -, -, -, b4, -⟩, -, -, -, -, -, -, -, u4, u5, -⟩ := h
  have h1 := u4 (12 * a + b) (by omega) (by omega)
  rw [b4 _ (by omega) (by omega)]
  unfold yTrav
  by_cases e : a = b
  · rw [if_pos e, ← e, u5 a a0 a1]; exact ⟨rfl, by omega, by omega⟩
  · rw [if_neg e, a4 a b ⟨a0, a1⟩ ⟨b0, b1⟩ e]; exact ⟨rfl, h1⟩
theorem sYd_e {t : Nat} {w : zW} (h : sYd t w) {c d : Int} (c0 : 0 ≤ c) (c1 : c < 12) (d0 : 0 ≤ d) (d1 : d < 30) : tb (w (t + 5) c) d = true ↔ mNe w c d := by
  obtain ⟨Y, ⟨-, -, -, -, -, -, a4⟩, ⟨⟨-, -, -, b3⟩, -, -, -, -, b4⟩, -⟩ := h
  rw [(a4 c c0 c1).2 d d0 d1]
  unfold neP mNe
  rw [b3]
  constructor
  · rintro ⟨k, k0, h1, h2, h3⟩
    exact ⟨k, k0, by rw [b4 _ (by omega) (by omega)]; exact h1, by rw [b4 _ (by omega) (by omega)]; exact h2, by rw [b4 _ (by omega) (by omega)]; exact h3⟩
  · rintro ⟨k, k0, h1, h2, h3⟩
    rw [b4 _ (by omega) (by omega)] at h1 h2 h3
    exact ⟨k, k0, h1, h2, h3⟩
theorem sYd_y {t : Nat} {w : zW} (h : sYd t w) : okYard w t := by
  obtain ⟨Y, h1, -, h3⟩ := h
  exact yC_ok h1 h3
theorem sYd_let {t : Nat} {w : zW} (h : sYd t w) {l : Int} (l0 : 0 ≤ l) (l1 : l < w t 7) : okLet w t (w t 5) l := by
  obtain ⟨-, -, -, -, -, -, -, hl, -⟩ := sYd_y h
  exact hl l l0 l1
theorem sYd_ml {t : Nat} {w : zW} (h : sYd t w) {l : Int} (l0 : 0 ≤ l) (l1 : l < w 76 0) : okML w l := by
  have hn := sYd_n h
  have h1 : l < w t 7 := by omega
  have hl := sYd_let h l0 h1
  unfold okML
  rw [sYd_l0 h l0 h1, sYd_ll h l0 h1 (by decide) (by decide), sYd_ll h l0 h1 (by decide) (by decide), sYd_ll h l0 h1 (by decide) (by decide), sYd_ll h l0 h1 (by decide) (by decide), sYd_ll h l0 h1 (by decide) (by decide), hn.1.1]
  exact hl
theorem sYd_m {t : Nat} {w : zW} (h : sYd t w) : okMY w := by
  have hn := sYd_n h
  refine ⟨by omega, by omega, by omega, fun i i0 i1 => ?_, fun l l0 l1 => sYd_ml h l0 l1⟩
  have := sYd_t h (a := i / 12) (b := i % 12) (by omega) (by omega) (by omega) (by omega)
  rw [show 12 * (i / 12) + i % 12 = i by omega] at this
  omega
theorem sYd_can {t : Nat} {w : zW} (h : sYd t w) {l : Int} (l0 : 0 ≤ l) (l1 : l < w t 7) (d : Int) : yCan w t l d ↔ mCan w l d := by
  have hl := sYd_let h l0 l1
  have hn := sYd_n h
  unfold okLet at hl
  unfold yCan mCan yGood mGood
  rw [sYd_l0 h l0 l1, sYd_ll h l0 l1 (by decide) (by decide), sYd_ll h l0 l1 (by decide) (by decide), sYd_ll h l0 l1 (by decide) (by decide), sYd_ll h l0 l1 (by decide) (by decide)]
  have he : ∀ e : Int, 0 ≤ e → e < 30 → ((w (t + 3) e ≤ w (t + 4) (l * 6 + 2) ∧ tb (w (t + 5) (w (t + 4) (l * 6))) e = false) ↔ (w 80 e ≤ w (t + 4) (l * 6 + 2) ∧ ¬ mNe w (w (t + 4) (l * 6)) e)) := fun e e0 e1 => by
    rw [(sYd_w h e0 e1).1, ← sYd_e h (by omega) (by omega) e0 e1, Bool.not_eq_true]
  constructor
  · rintro ⟨h1, h2, h3⟩
    exact ⟨h1, h2, fun e a b => (he e (by omega) (by omega)).mp (h3 e a b)⟩
  · rintro ⟨h1, h2, h3⟩
    exact ⟨h1, h2, fun e a b => (he e (by omega) (by omega)).mpr (h3 e a b)⟩
/-! plans over letters that are alike -/
def agG (can can' : Int → Int → Prop) (wd wd' pr pr' : Int → Int) (tr tr' : Int → Int → Int) (n : Int) : Prop := ∀ l : Int, 0 ≤ l → l < n → (∀ d, can l d ↔ can' l d) ∧ wd l = wd' l ∧ pr l = pr' l ∧ ∀ b : Int, 0 ≤ b → b < n → tr l b = tr' l b
theorem agG_s {can can' : Int → Int → Prop} {wd wd' pr pr' : Int → Int} {tr tr' : Int → Int → Int} {n : Int} (h : agG can can' wd wd' pr pr' tr tr' n) : agG can' can wd' wd pr' pr tr' tr n := fun l a b => ⟨fun d => ((h l a b).1 d).symm, (h l a b).2.1.symm, (h l a b).2.2.1.symm, fun c x y => ((h l a b).2.2.2 c x y).symm⟩
section AG
variable {can can' : Int → Int → Prop} {wd wd' pr pr' : Int → Int} {tr tr' : Int → Int → Int} {n : Int}
theorem stp_ag (h : agG can can' wd wd' pr pr' tr tr' n) {r : List (Int × Int)} {x : Int × Int} (hr : rz can wd tr n r) (hs : stp can wd tr n r x) : stp can' wd' tr' n r x := by
  obtain ⟨h0, h1, h2, h3⟩ := hs
  refine ⟨h0, h1, ?_, h3⟩
  have e1 : can' x.1 = can x.1 := funext fun d => propext ((h x.1 h0.1 h0.2).1 d).symm
  have e2 : frr wd' tr' r x.1 = frr wd tr r x.1 := by
    cases r with
    | nil => rfl
    | cons y r =>
      have hy := hr.1.1
      show y.2 + wd' y.1 + tr' y.1 x.1 = y.2 + wd y.1 + tr y.1 x.1
      rw [(h y.1 hy.1 hy.2).2.1, (h y.1 hy.1 hy.2).2.2.2 x.1 h0.1 h0.2]
  rw [e1, e2]
  exact h2
theorem rz_ag (h : agG can can' wd wd' pr pr' tr tr' n) : ∀ {r : List (Int × Int)}, rz can wd tr n r → rz can' wd' tr' n r
  | [], _ => trivial
  | _ :: _, hr => ⟨stp_ag h hr.2 hr.1, rz_ag h hr.2⟩
theorem fz_ag (h : agG can can' wd wd' pr pr' tr tr' n) : ∀ {t r : List (Int × Int)}, rz can wd tr n r → fz can wd tr n t r → fz can' wd' tr' n t r
  | [], _, _, _ => trivial
  | _ :: _, _, hr, ht => ⟨stp_ag h hr ht.1, fz_ag h ⟨ht.1, hr⟩ ht.2⟩
theorem prR_ag (h : agG can can' wd wd' pr pr' tr tr' n) : ∀ {r : List (Int × Int)}, rz can wd tr n r → prR pr r = prR pr' r
  | [], _ => rfl
  | x :: r, hr => by
    show pr x.1 + prR pr r = pr' x.1 + prR pr' r
    rw [prR_ag h hr.2, (h x.1 hr.1.1.1 hr.1.1.2).2.2.1]
theorem enR_ag (h : agG can can' wd wd' pr pr' tr tr' n) : ∀ {r : List (Int × Int)}, rz can wd tr n r → enR wd r = enR wd' r
  | [], _ => rfl
  | x :: r, hr => by
    show x.2 + wd x.1 - 1 = x.2 + wd' x.1 - 1
    rw [(h x.1 hr.1.1.1 hr.1.1.2).2.1]
theorem bz_ag (h : agG can can' wd wd' pr pr' tr tr' n) {R : List (Int × Int)} (hb : bz can wd pr tr n R) : bz can' wd' pr' tr' n R := by
  have hz : ∀ {t : List (Int × Int)}, fz can wd tr n t [] → rz can wd tr n (ct t []) := fun ht => rz_ct (r := []) trivial ht
  refine ⟨fz_ag h (r := []) trivial hb.1, fun u hu => ?_⟩
  have hu2 := fz_ag (agG_s h) (r := []) trivial hu
  have h1 := hb.2 u hu2
  rw [prR_ag h (hz hu2), prR_ag h (hz hb.1), enR_ag h (hz hu2), enR_ag h (hz hb.1)] at h1
  exact h1
end AG
theorem sYd_ag {t : Nat} {w : zW} (h : sYd t w) : agG (yCan w t) (mCan w) (yW w t) (mWd w) (yP w t) (mPr w) (yT w t) (mTv w) (w t 7) := fun l l0 l1 => by
  have hl := sYd_let h l0 l1
  have hn := sYd_n h
  refine ⟨sYd_can h l0 l1, (sYd_ll h l0 l1 (by decide) (by decide)).symm, (sYd_ll h l0 l1 (by decide) (by decide)).symm, fun b b0 b1 => ?_⟩
  have hb := sYd_let h b0 b1
  unfold okLet at hl hb
  show yTrav w t (w (t + 4) (l * 6)) (w (t + 4) (b * 6)) = w 82 (12 * w 81 (6 * l) + w 81 (6 * b))
  rw [sYd_l0 h l0 l1, sYd_l0 h b0 b1]
  exact (sYd_t h (by omega) (by omega) (by omega) (by omega)).1.symm
/-! orders over costs that are alike -/
theorem mnF_c2 {p : Int → Bool} {f g : Int → Int} (n : Nat) (h : ∀ c : Int, 0 ≤ c → c < n → f c = g c) : mnF p f n = mnF p g n := mnF_c n (fun _ _ _ => rfl) (fun c a b _ => h c a b)
section OAG
variable {rk wk : Int → Int} {tr rk' wk' : Int → Int} {tt tt' : Int → Int → Int}
theorem oR_ag {rk rk' : Int → Int} (h : ∀ c : Int, 0 ≤ c → c < 12 → rk c = rk' c) (p : Int → Bool) : oR rk p = oR rk' p := zsum_c 12 (fun k hk => by rw [h k (by omega) (by omega)])
theorem oWay_ag (h : ∀ a b : Int, 0 ≤ a → a < 12 → 0 ≤ b → b < 12 → tt a b = tt' a b) {L c : Int} (hL : L = -1 ∨ (0 ≤ L ∧ L < 12)) (c0 : 0 ≤ c) (c1 : c < 12) : oWay tt L c = oWay tt' L c := by
  unfold oWay
  split
  · rfl
  · exact h L c (by omega) (by omega) c0 c1
theorem oC_ag (h1 : ∀ c : Int, 0 ≤ c → c < 12 → rk c = rk' c) (h2 : ∀ c : Int, 0 ≤ c → c < 12 → wk c = wk' c) (h3 : ∀ a b : Int, 0 ≤ a → a < 12 → 0 ≤ b → b < 12 → tt a b = tt' a b) : ∀ (n : Nat) (p : Int → Bool) (L : Int), (L = -1 ∨ (0 ≤ L ∧ L < 12)) → oC rk wk tt n p L = oC rk' wk' tt' n p L
  | 0, _, _, _ => rfl
  | n + 1, p, L, hL => by
    simp only [oC]
    rw [oR_ag h1 p]
    exact mnF_c2 12 (fun c a b => by rw [oC_ag h1 h2 h3 n _ c (Or.inr ⟨a, b⟩), oWay_ag h3 hL a b, h2 c a b])
theorem oF_ag (h1 : ∀ c : Int, 0 ≤ c → c < 12 → rk c = rk' c) (h2 : ∀ c : Int, 0 ≤ c → c < 12 → wk c = wk' c) (h3 : ∀ a b : Int, 0 ≤ a → a < 12 → 0 ≤ b → b < 12 → tt a b = tt' a b) (n : Nat) (p : Int → Bool) {L c : Int} (hL : L = -1 ∨ (0 ≤ L ∧ L < 12)) (a : 0 ≤ c) (b : c < 12) : oF rk wk tt n p L c = oF rk' wk' tt' n p L c := by
  unfold oF
  rw [oR_ag h1 p, oC_ag h1 h2 h3 n _ c (Or.inr ⟨a, b⟩), oWay_ag h3 hL a b, h2 c a b]
theorem oNx_ag (h1 : ∀ c : Int, 0 ≤ c → c < 12 → rk c = rk' c) (h2 : ∀ c : Int, 0 ≤ c → c < 12 → wk c = wk' c) (h3 : ∀ a b : Int, 0 ≤ a → a < 12 → 0 ≤ b → b < 12 → tt a b = tt' a b) (n : Nat) (p : Int → Bool) {L : Int} (hL : L = -1 ∨ (0 ≤ L ∧ L < 12)) : oNx rk wk tt n p L = oNx rk' wk' tt' n p L := fsq_c 12 (fun c a b => by rw [oF_ag h1 h2 h3 n p hL a b, oC_ag h1 h2 h3 (n + 1) p L hL])
end OAG
