/-! lean, the pure part: lines through readings. y: years from the asked one on; L, U: the ends of the readings -/
theorem cnc {a X1 X2 G1 G2 : Int} (ha : 0 < a) (h : X1 ≤ X2) (e : X2 - X1 = a * (G2 - G1)) : G1 ≤ G2 := by
  refine Classical.byContradiction (fun hn => ?_)
  have h1 : G2 - G1 ≤ -1 := by omega
  have h2 := Int.mul_le_mul_of_nonneg_left h1 (Int.le_of_lt ha)
  omega
def fea (y L U : Int → Int) (m A B D : Int) : Prop := 0 < D ∧ ∀ k : Int, 0 ≤ k → k < m → L k * D ≤ A + B * y k ∧ A + B * y k ≤ U k * D
def vtx (y L U : Int → Int) (m A D : Int) : Prop := ∃ i j e f B : Int, (0 ≤ i ∧ i < m) ∧ (0 ≤ j ∧ j < m) ∧ y i < y j ∧ (e = L i ∨ e = U i) ∧ (f = L j ∨ f = U j) ∧ D = y j - y i ∧ B = f - e ∧ A = e * D - B * y i ∧ fea y L U m A B D
def bd (y L U : Int → Int) (p q N D : Int) : Prop := (p = q ∧ y p = 0 ∧ N = U p ∧ D = 1) ∨ (y p < 0 ∧ 0 < y q ∧ N = U p * y q - U q * y p ∧ D = y q - y p) ∨ (0 < y p ∧ y p < y q ∧ N = U p * y q - L q * y p ∧ D = y q - y p) ∨ (y p < 0 ∧ y q < y p ∧ N = L q * y p - U p * y q ∧ D = y p - y q)
theorem bd_pos {y L U : Int → Int} {p q N D : Int} (h : bd y L U p q N D) : 0 < D := by unfold bd at h; omega
/-- no line that goes through is above a bound -/
theorem bd_fea {y L U : Int → Int} {m A B D p q N E : Int} (hf : fea y L U m A B D) (hp : 0 ≤ p ∧ p < m) (hq : 0 ≤ q ∧ q < m) (h : bd y L U p q N E) : A * E ≤ N * D := by
  obtain ⟨hD, hf⟩ := hf
  have fp := hf p hp.1 hp.2
  have fq := hf q hq.1 hq.2
  clear hf
  unfold bd at h
  generalize y p = a at *
  generalize y q = b at *
  generalize hUp : U p = Up at *
  generalize hUq : U q = Uq at *
  generalize L p = Lp at *
  generalize L q = Lq at *
  rcases h with ⟨-, h1, rfl, rfl⟩ | ⟨h1, h2, rfl, rfl⟩ | ⟨h1, h2, rfl, rfl⟩ | ⟨h1, h2, rfl, rfl⟩
  · subst h1; omega
  · have k1 := Int.mul_le_mul_of_nonneg_left fp.2 (show 0 ≤ b by omega)
    have k2 := Int.mul_le_mul_of_nonneg_left fq.2 (show 0 ≤ -a by omega)
    exact cnc (a := 1) (X1 := b * (A + B * a) + -a * (A + B * b)) (X2 := b * (Up * D) + -a * (Uq * D)) (by decide) (by omega) (by grind)
  · have k1 := Int.mul_le_mul_of_nonneg_left fp.2 (show 0 ≤ b by omega)
    have k2 := Int.mul_le_mul_of_nonneg_left fq.1 (show 0 ≤ a by omega)
    exact cnc (a := 1) (X1 := b * (A + B * a) + a * (Lq * D)) (X2 := b * (Up * D) + a * (A + B * b)) (by decide) (by omega) (by grind)
  · have k1 := Int.mul_le_mul_of_nonneg_left fp.2 (show 0 ≤ -b by omega)
    have k2 := Int.mul_le_mul_of_nonneg_left fq.1 (show 0 ≤ -a by omega)
    exact cnc (a := 1) (X1 := -b * (A + B * a) + -a * (Lq * D)) (X2 := -b * (Up * D) + -a * (A + B * b)) (by decide) (by omega) (by grind)
/-- the least of finitely many -/
theorem argm {P : Int → Prop} {R : Int → Int → Prop} (tot : ∀ i j, P i → P j → R i j ∨ R j i) (tr : ∀ i j k, P i → P j → P k → R i j → R j k → R i k) : ∀ n : Nat, (∃ i : Int, 0 ≤ i ∧ i < n ∧ P i) → ∃ i : Int, (0 ≤ i ∧ i < n) ∧ P i ∧ ∀ j : Int, 0 ≤ j → j < n → P j → R i j := by
  intro n
  induction n with
  | zero => rintro ⟨i, h1, h2, -⟩; omega
  | succ n ih =>
    rintro ⟨i, h1, h2, h3⟩
    by_cases hx : ∃ i : Int, 0 ≤ i ∧ i < n ∧ P i
    · obtain ⟨i, hi, hp, hm⟩ := ih hx
      by_cases hn : P (n : Int)
      · rcases tot i n hp hn with hr | hr
        · refine ⟨i, by omega, hp, fun j j0 j1 hj => ?_⟩
          by_cases e : j = (n : Int)
          · rw [e]; exact hr
          · exact hm j j0 (by omega) hj
        · refine ⟨n, by omega, hn, fun j j0 j1 hj => ?_⟩
          by_cases e : j = (n : Int)
          · rw [e]; exact (tot _ _ hn hn).elim id id
          · exact tr _ _ _ hn hp hj hr (hm j j0 (by omega) hj)
      · refine ⟨i, by omega, hp, fun j j0 j1 hj => ?_⟩
        by_cases e : j = (n : Int)
        · rw [e] at hj; exact absurd hj hn
        · exact hm j j0 (by omega) hj
    · have e : i = (n : Int) := Classical.byContradiction (fun e => hx ⟨i, h1, by omega, h3⟩)
      refine ⟨n, by omega, by rw [← e]; exact h3, fun j j0 j1 hj => ?_⟩
      have e2 : j = (n : Int) := Classical.byContradiction (fun e2 => hx ⟨j, j0, by omega, hj⟩)
      rw [e2]; rw [e2] at hj; exact (tot _ _ hj hj).elim id id
/-- fractions compare -/
theorem fr_tr {a b c d e f : Int} (hb : 0 < b) (hd : 0 < d) (hf : 0 < f) (h1 : a * d ≤ c * b) (h2 : c * f ≤ e * d) : a * f ≤ e * b := by
  have k1 := Int.mul_le_mul_of_nonneg_left h1 (Int.le_of_lt hf)
  have k2 := Int.mul_le_mul_of_nonneg_left h2 (Int.le_of_lt hb)
  exact cnc (a := d) (X1 := f * (a * d) + b * (c * f)) (X2 := f * (c * b) + b * (e * d)) hd (by omega) (by grind)
theorem bd_f {y L U : Int → Int} {p q : Int} {N D N' D' : Int} (h : bd y L U p q N D) (k : bd y L U p q N' D') : N = N' ∧ D = D' := by
  unfold bd at h k
  rcases h with ⟨h0, h1, h3, h4⟩ | ⟨h1, h2, h3, h4⟩ | ⟨h1, h2, h3, h4⟩ | ⟨h1, h2, h3, h4⟩ <;> rcases k with ⟨k0, k1, k3, k4⟩ | ⟨k1, k2, k3, k4⟩ | ⟨k1, k2, k3, k4⟩ | ⟨k1, k2, k3, k4⟩ <;> first | (exfalso; first | omega | (rw [h0] at h1; omega) | (rw [k0] at k1; omega)) | exact ⟨h3.trans k3.symm, h4.trans k4.symm⟩
def bdN (y L U : Int → Int) (p q : Int) : Int := if p = q then U p else if y p < 0 ∧ 0 < y q then U p * y q - U q * y p else if 0 < y p then U p * y q - L q * y p else L q * y p - U p * y q
def bdD (y : Int → Int) (p q : Int) : Int := if p = q then 1 else if y q < y p then y p - y q else y q - y p
def bdP (y : Int → Int) (p q : Int) : Prop := (p = q ∧ y p = 0) ∨ (y p < 0 ∧ 0 < y q) ∨ (0 < y p ∧ y p < y q) ∨ (y p < 0 ∧ y q < y p)
theorem bdP_bd {y L U : Int → Int} {p q : Int} (h : bdP y p q) : bd y L U p q (bdN y L U p q) (bdD y p q) := by
  unfold bdP at h
  unfold bd bdN bdD
  by_cases e : p = q
  · subst e
    rw [if_pos rfl, if_pos rfl]
    exact Or.inl ⟨rfl, by omega, rfl, rfl⟩
  · rw [if_neg e, if_neg e]
    rcases h with h | h | h | h
    · exact absurd h.1 e
    · rw [if_pos h, if_neg (by omega)]
      exact Or.inr (Or.inl ⟨h.1, h.2, rfl, rfl⟩)
    · rw [if_neg (by omega), if_pos h.1, if_neg (by omega)]
      exact Or.inr (Or.inr (Or.inl ⟨h.1, h.2, rfl, rfl⟩))
    · rw [if_neg (by omega), if_neg (by omega), if_pos h.2]
      exact Or.inr (Or.inr (Or.inr ⟨h.1, h.2, rfl, rfl⟩))
theorem bd_bdP {y L U : Int → Int} {p q N D : Int} (h : bd y L U p q N D) : bdP y p q ∧ N = bdN y L U p q ∧ D = bdD y p q := by
  have hP : bdP y p q := by
    unfold bd at h
    unfold bdP
    rcases h with h | h | h | h
    · exact Or.inl ⟨h.1, h.2.1⟩
    · exact Or.inr (Or.inl ⟨h.1, h.2.1⟩)
    · exact Or.inr (Or.inr (Or.inl ⟨h.1, h.2.1⟩))
    · exact Or.inr (Or.inr (Or.inr ⟨h.1, h.2.1⟩))
  exact ⟨hP, bd_f h (bdP_bd hP)⟩
/-- the least bound -/
theorem bd_min {y L U : Int → Int} {m : Int} (m0 : 0 ≤ m) (m1 : m ≤ 10) (h : ∃ p q : Int, (0 ≤ p ∧ p < m) ∧ (0 ≤ q ∧ q < m) ∧ bdP y p q) : ∃ p q : Int, ((0 ≤ p ∧ p < m) ∧ (0 ≤ q ∧ q < m) ∧ bdP y p q) ∧ ∀ x z : Int, 0 ≤ x → x < m → 0 ≤ z → z < m → bdP y x z → bdN y L U p q * bdD y x z ≤ bdN y L U x z * bdD y p q := by
  have hD : ∀ i j : Int, bdP y i j → 0 < bdD y i j := fun i j h => bd_pos (L := fun _ => 0) (U := fun _ => 0) (bdP_bd h)
  have key := argm (P := fun i => (i / 10 < m ∧ i % 10 < m) ∧ bdP y (i / 10) (i % 10)) (R := fun i j => bdN y L U (i / 10) (i % 10) * bdD y (j / 10) (j % 10) ≤ bdN y L U (j / 10) (j % 10) * bdD y (i / 10) (i % 10)) (fun i j _ _ => Int.le_total _ _) (fun i j k hi hj hk h1 h2 => fr_tr (hD _ _ hi.2) (hD _ _ hj.2) (hD _ _ hk.2) h1 h2) 100 (by
    obtain ⟨p, q, hp, hq, hb⟩ := h
    refine ⟨p * 10 + q, by omega, by omega, ⟨by omega, by omega⟩, ?_⟩
    rw [show (p * 10 + q) / 10 = p by omega, show (p * 10 + q) % 10 = q by omega]
    exact hb)
  obtain ⟨i, hi, hp, hm⟩ := key
  refine ⟨i / 10, i % 10, ⟨⟨by omega, hp.1.1⟩, ⟨by omega, hp.1.2⟩, hp.2⟩, fun x z x0 x1 z0 z1 hb => ?_⟩
  have := hm (x * 10 + z) (by omega) (by omega)
  rw [show (x * 10 + z) / 10 = x by omega, show (x * 10 + z) % 10 = z by omega] at this
  exact this ⟨⟨x1, z1⟩, hb⟩
theorem bd_ex {y : Int → Int} {m : Int} (h : ∃ i j : Int, (0 ≤ i ∧ i < m) ∧ (0 ≤ j ∧ j < m) ∧ y i < y j) : ∃ p q : Int, (0 ≤ p ∧ p < m) ∧ (0 ≤ q ∧ q < m) ∧ bdP y p q := by
  obtain ⟨i, j, hi, hj, hy⟩ := h
  unfold bdP
  by_cases e : y i = 0
  · exact ⟨i, i, hi, hi, Or.inl ⟨rfl, e⟩⟩
  · by_cases e2 : 0 < y i
    · exact ⟨i, j, hi, hj, by omega⟩
    · by_cases e3 : y j = 0
      · exact ⟨j, j, hj, hj, Or.inl ⟨rfl, e3⟩⟩
      · by_cases e4 : 0 < y j
        · exact ⟨i, j, hi, hj, by omega⟩
        · exact ⟨j, i, hj, hi, by omega⟩
theorem line_b {y L U : Int → Int} {m A0 B0 D0 p q : Int} (hf : fea y L U m A0 B0 D0) (hp : 0 ≤ p ∧ p < m) (hq : 0 ≤ q ∧ q < m) (h1 : y p < 0) (h2 : 0 < y q) (hm : ∀ x z : Int, 0 ≤ x → x < m → 0 ≤ z → z < m → ∀ N E, bd y L U x z N E → (U p * y q - U q * y p) * E ≤ N * (y q - y p)) : fea y L U m (U p * y q - U q * y p) (U q - U p) (y q - y p) := by
  obtain ⟨h0, f0⟩ := hf
  have fp := f0 p hp.1 hp.2
  have fq := f0 q hq.1 hq.2
  refine ⟨by omega, fun k k0 k1 => ?_⟩
  have fk := f0 k k0 k1
  have mk := hm k k k0 k1 k0 k1
  have m1 := hm k q k0 k1 hq.1 hq.2
  have m2 := hm p k hp.1 hp.2 k0 k1
  have m3 := hm q k hq.1 hq.2 k0 k1
  have m4 := hm k p k0 k1 hp.1 hp.2
  unfold bd at mk m1 m2 m3 m4
  generalize y p = a at *
  generalize y q = b at *
  generalize y k = c at *
  generalize U p = Up at *
  generalize U q = Uq at *
  generalize U k = Uk at *
  generalize L p = Lp at *
  generalize L q = Lq at *
  generalize L k = Lk at *
  clear hm f0
  constructor
  · by_cases ca : a ≤ c
    · by_cases cb : c ≤ b
      · have k1 := Int.mul_le_mul_of_nonneg_left fp.2 (show 0 ≤ b - c by omega)
        have k2 := Int.mul_le_mul_of_nonneg_left fq.2 (show 0 ≤ c - a by omega)
        have k3 := Int.mul_le_mul_of_nonneg_left fk.1 (show 0 ≤ b - a by omega)
        exact cnc (X1 := (b - c) * (A0 + B0 * a) + (c - a) * (A0 + B0 * b) + (b - a) * (Lk * D0)) (X2 := (b - c) * (Up * D0) + (c - a) * (Uq * D0) + (b - a) * (A0 + B0 * c)) h0 (by omega) (by grind)
      · have k := m3 _ _ (Or.inr (Or.inr (Or.inl ⟨h2, by omega, rfl, rfl⟩)))
        exact cnc h2 k (by grind)
    · have k := m2 _ _ (Or.inr (Or.inr (Or.inr ⟨h1, by omega, rfl, rfl⟩)))
      exact cnc (a := -a) (by omega) k (by grind)
  · by_cases c0 : c = 0
    · have k := mk _ _ (Or.inl ⟨rfl, c0, rfl, rfl⟩)
      subst c0
      omega
    · by_cases cn : c < 0
      · have k := m1 _ _ (Or.inr (Or.inl ⟨cn, h2, rfl, rfl⟩))
        exact cnc h2 k (by grind)
      · have k := m2 _ _ (Or.inr (Or.inl ⟨h1, by omega, rfl, rfl⟩))
        exact cnc (a := -a) (by omega) k (by grind)
theorem line_p {y L U : Int → Int} {m A0 B0 D0 p q : Int} (hf : fea y L U m A0 B0 D0) (hp : 0 ≤ p ∧ p < m) (hq : 0 ≤ q ∧ q < m) (h1 : 0 < y p) (h2 : y p < y q) (hm : ∀ x z : Int, 0 ≤ x → x < m → 0 ≤ z → z < m → ∀ N E, bd y L U x z N E → (U p * y q - L q * y p) * E ≤ N * (y q - y p)) : fea y L U m (U p * y q - L q * y p) (L q - U p) (y q - y p) := by
  obtain ⟨h0, f0⟩ := hf
  have fp := f0 p hp.1 hp.2
  have fq := f0 q hq.1 hq.2
  refine ⟨by omega, fun k k0 k1 => ?_⟩
  have fk := f0 k k0 k1
  have mk := hm k k k0 k1 k0 k1
  have m1 := hm k q k0 k1 hq.1 hq.2
  have m2 := hm p k hp.1 hp.2 k0 k1
  have m3 := hm q k hq.1 hq.2 k0 k1
  have m4 := hm k p k0 k1 hp.1 hp.2
  unfold bd at mk m1 m2 m3 m4
  generalize y p = a at *
  generalize y q = b at *
  generalize y k = c at *
  generalize U p = Up at *
  generalize U q = Uq at *
  generalize U k = Uk at *
  generalize L p = Lp at *
  generalize L q = Lq at *
  generalize L k = Lk at *
  clear hm f0
  constructor
  · by_cases ca : c ≤ a
    · have k1 := Int.mul_le_mul_of_nonneg_left fp.2 (show 0 ≤ b - c by omega)
      have k2 := Int.mul_le_mul_of_nonneg_left fq.1 (show 0 ≤ a - c by omega)
      have k3 := Int.mul_le_mul_of_nonneg_left fk.1 (show 0 ≤ b - a by omega)
      exact cnc (X1 := (b - c) * (A0 + B0 * a) + (a - c) * (Lq * D0) + (b - a) * (Lk * D0)) (X2 := (b - c) * (Up * D0) + (a - c) * (A0 + B0 * b) + (b - a) * (A0 + B0 * c)) h0 (by omega) (by grind)
    · have k := m2 _ _ (Or.inr (Or.inr (Or.inl ⟨h1, by omega, rfl, rfl⟩)))
      exact cnc h1 k (by grind)
  · by_cases c0 : c = 0
    · have k := mk _ _ (Or.inl ⟨rfl, c0, rfl, rfl⟩)
      subst c0
      omega
    · by_cases cn : c < 0
      · have k := m4 _ _ (Or.inr (Or.inl ⟨cn, h1, rfl, rfl⟩))
        exact cnc h1 k (by grind)
      · by_cases cb : c < b
        · have k := m1 _ _ (Or.inr (Or.inr (Or.inl ⟨by omega, cb, rfl, rfl⟩)))
          exact cnc (a := b) (by omega) k (by grind)
        · have k1 := Int.mul_le_mul_of_nonneg_left fp.2 (show 0 ≤ c - b by omega)
          have k2 := Int.mul_le_mul_of_nonneg_left fq.1 (show 0 ≤ c - a by omega)
          have k3 := Int.mul_le_mul_of_nonneg_left fk.2 (show 0 ≤ b - a by omega)
          exact cnc (X1 := (c - b) * (A0 + B0 * a) + (c - a) * (Lq * D0) + (b - a) * (A0 + B0 * c)) (X2 := (c - b) * (Up * D0) + (c - a) * (A0 + B0 * b) + (b - a) * (Uk * D0)) h0 (by omega) (by grind)
/-- the same in a mirror -/
theorem fea_m {y L U : Int → Int} {m A B D : Int} (h : fea y L U m A B D) : fea (fun k => -y k) L U m A (-B) D :=
  ⟨h.1, fun k k0 k1 => by have := h.2 k k0 k1; show _ ≤ A + -B * -y k ∧ A + -B * -y k ≤ _; rw [Int.neg_mul_neg]; exact this⟩
theorem bd_m {y L U : Int → Int} {p q N D : Int} (h : bd (fun k => -y k) L U p q N D) : (p = q ∧ bd y L U p q N D) ∨ bd y L U p q N D ∨ bd y L U q p N D := by
  unfold bd at h ⊢
  dsimp only at h
  rcases h with ⟨h0, h1, h2, h3⟩ | ⟨h1, h2, h3, h4⟩ | ⟨h1, h2, h3, h4⟩ | ⟨h1, h2, h3, h4⟩
  · exact Or.inl ⟨h0, Or.inl ⟨h0, by omega, h2, h3⟩⟩
  · exact Or.inr (Or.inr (Or.inr (Or.inl ⟨by omega, by omega, by rw [h3]; grind, by omega⟩)))
  · exact Or.inr (Or.inl (Or.inr (Or.inr (Or.inr ⟨by omega, by omega, by rw [h3]; grind, by omega⟩))))
  · exact Or.inr (Or.inl (Or.inr (Or.inr (Or.inl ⟨by omega, by omega, by rw [h3]; grind, by omega⟩))))
theorem line_n {y L U : Int → Int} {m A0 B0 D0 p q : Int} (hf : fea y L U m A0 B0 D0) (hp : 0 ≤ p ∧ p < m) (hq : 0 ≤ q ∧ q < m) (h1 : y p < 0) (h2 : y q < y p) (hm : ∀ x z : Int, 0 ≤ x → x < m → 0 ≤ z → z < m → ∀ N E, bd y L U x z N E → (L q * y p - U p * y q) * E ≤ N * (y p - y q)) : fea y L U m (L q * y p - U p * y q) (U p - L q) (y p - y q) := by
  have h := line_p (fea_m hf) hp hq (show 0 < -y p by omega) (show -y p < -y q by omega) (fun x z x0 x1 z0 z1 N E hb => by
    have hb2 : bd y L U x z N E ∨ bd y L U z x N E := by
      rcases bd_m hb with h | h | h
      · exact Or.inl h.2
      · exact Or.inl h
      · exact Or.inr h
    have e1 : (U p * -y q - L q * -y p) * E = (L q * y p - U p * y q) * E := by grind
    have e2 : N * (-y q - -y p) = N * (y p - y q) := by grind
    rw [e1, e2]
    rcases hb2 with hb2 | hb2
    · exact hm x z x0 x1 z0 z1 N E hb2
    · exact hm z x z0 z1 x0 x1 N E hb2)
  have h3 := fea_m h
  have e1 : U p * -y q - L q * -y p = L q * y p - U p * y q := by grind
  have e2 : -(L q - U p) = U p - L q := by omega
  have e3 : -y q - -y p = y p - y q := by omega
  have e4 : (fun k => - -y k) = y := funext fun k => Int.neg_neg _
  have h4 : fea (fun k => - -y k) L U m (U p * -y q - L q * -y p) (-(L q - U p)) (-y q - -y p) := h3
  rw [e1, e2, e3, e4] at h4
  exact h4
theorem line_z {y L U : Int → Int} {m A0 B0 D0 p : Int} (m0 : 0 ≤ m) (m10 : m ≤ 10) (hf : fea y L U m A0 B0 D0) (hp : 0 ≤ p ∧ p < m) (h1 : y p = 0) (hy : ∃ k : Int, 0 ≤ k ∧ k < m ∧ y k ≠ 0) (hm : ∀ x z : Int, 0 ≤ x → x < m → 0 ≤ z → z < m → ∀ N E, bd y L U x z N E → U p * E ≤ N * 1) : ∃ q B D, (0 ≤ q ∧ q < m) ∧ ((0 < y q ∧ D = y q ∧ B = U q - U p) ∨ (y q < 0 ∧ D = -y q ∧ B = U p - L q)) ∧ fea y L U m (U p * D) B D := by
  obtain ⟨h0, f0⟩ := hf
  have fp := f0 p hp.1 hp.2
  obtain ⟨q, hq, hq0, hq1⟩ := argm (P := fun k => k < m ∧ y k ≠ 0) (R := fun i j => (if 0 < y i then U i - U p else U p - L i) * (if 0 < y j then y j else -y j) ≤ (if 0 < y j then U j - U p else U p - L j) * (if 0 < y i then y i else -y i)) (fun i j _ _ => Int.le_total _ _) (fun i j k hi hj hk h1 h2 => fr_tr (by have := hi.2; split <;> omega) (by have := hj.2; split <;> omega) (by have := hk.2; split <;> omega) h1 h2) 10 (by obtain ⟨k, a, b, c⟩ := hy; exact ⟨k, a, by omega, b, c⟩)
  have fq := f0 q hq.1 hq0.1
  rw [h1] at fp
  by_cases cq : 0 < y q
  · refine ⟨q, U q - U p, y q, ⟨hq.1, hq0.1⟩, Or.inl ⟨cq, rfl, rfl⟩, cq, fun k k0 k1 => ?_⟩
    have fk := f0 k k0 k1
    have mk := hm k k k0 k1 k0 k1
    have m2 := hm k q k0 k1 hq.1 hq0.1
    have m3 := hm q k hq.1 hq0.1 k0 k1
    have mq := hq1 k k0 (by omega)
    rw [if_pos cq, if_pos cq] at mq
    unfold bd at mk m2 m3
    generalize y q = b at *
    generalize y k = c at *
    generalize U p = Up at *
    generalize U q = Uq at *
    generalize U k = Uk at *
    generalize L q = Lq at *
    generalize L k = Lk at *
    clear hm f0 hq1
    by_cases c0 : c = 0
    · subst c0
      have k := mk _ _ (Or.inl ⟨rfl, rfl, rfl, rfl⟩)
      have k2 : Lk ≤ Up := cnc (X1 := Lk * D0) (X2 := Up * D0) h0 (by omega) (by grind)
      have k3 := Int.mul_le_mul_of_nonneg_left (show Up ≤ Uk by omega) (Int.le_of_lt cq)
      have k4 := Int.mul_le_mul_of_nonneg_left k2 (Int.le_of_lt cq)
      rw [Int.mul_comm b, Int.mul_comm b] at k3 k4
      omega
    · have mq := mq ⟨k1, c0⟩
      by_cases cp : 0 < c
      · rw [if_pos cp, if_pos cp] at mq
        refine ⟨?_, cnc (a := 1) (by decide) mq (by grind)⟩
        by_cases cb : b < c
        · have k := m3 _ _ (Or.inr (Or.inr (Or.inl ⟨cq, cb, rfl, rfl⟩)))
          exact cnc (a := 1) (by decide) k (by grind)
        · have k1 := Int.mul_le_mul_of_nonneg_left fp.2 (show 0 ≤ b - c by omega)
          have k2 := Int.mul_le_mul_of_nonneg_left fq.2 (show 0 ≤ c by omega)
          have k3 := Int.mul_le_mul_of_nonneg_left fk.1 (show 0 ≤ b by omega)
          exact cnc (X1 := (b - c) * (A0 + B0 * 0) + c * (A0 + B0 * b) + b * (Lk * D0)) (X2 := (b - c) * (Up * D0) + c * (Uq * D0) + b * (A0 + B0 * c)) h0 (by omega) (by grind)
      · rw [if_neg cp, if_neg cp] at mq
        refine ⟨cnc (a := 1) (by decide) mq (by grind), ?_⟩
        have k := m2 _ _ (Or.inr (Or.inl ⟨by omega, cq, rfl, rfl⟩))
        exact cnc (a := 1) (by decide) k (by grind)
  · have cq2 : y q < 0 := by have := hq0.2; omega
    refine ⟨q, U p - L q, -y q, ⟨hq.1, hq0.1⟩, Or.inr ⟨cq2, rfl, rfl⟩, by omega, fun k k0 k1 => ?_⟩
    have fk := f0 k k0 k1
    have mk := hm k k k0 k1 k0 k1
    have m2 := hm k q k0 k1 hq.1 hq0.1
    have m3 := hm q k hq.1 hq0.1 k0 k1
    have mq := hq1 k k0 (by omega)
    rw [if_neg cq, if_neg cq] at mq
    unfold bd at mk m2 m3
    generalize y q = b at *
    generalize y k = c at *
    generalize U p = Up at *
    generalize U q = Uq at *
    generalize U k = Uk at *
    generalize L q = Lq at *
    generalize L k = Lk at *
    clear hm f0 hq1
    by_cases c0 : c = 0
    · subst c0
      have k := mk _ _ (Or.inl ⟨rfl, rfl, rfl, rfl⟩)
      have k2 : Lk ≤ Up := cnc (X1 := Lk * D0) (X2 := Up * D0) h0 (by omega) (by grind)
      have k3 := Int.mul_le_mul_of_nonneg_left (show Up ≤ Uk by omega) (show 0 ≤ -b by omega)
      have k4 := Int.mul_le_mul_of_nonneg_left k2 (show 0 ≤ -b by omega)
      rw [Int.mul_comm (-b), Int.mul_comm (-b)] at k3 k4
      omega
    · have mq := mq ⟨k1, c0⟩
      by_cases cp : 0 < c
      · rw [if_pos cp, if_pos cp] at mq
        refine ⟨?_, cnc (a := 1) (by decide) mq (by grind)⟩
        have k1 := Int.mul_le_mul_of_nonneg_left fp.2 (show 0 ≤ c - b by omega)
        have k2 := Int.mul_le_mul_of_nonneg_left fq.1 (show 0 ≤ c by omega)
        have k3 := Int.mul_le_mul_of_nonneg_left fk.1 (show 0 ≤ -b by omega)
        exact cnc (X1 := (c - b) * (A0 + B0 * 0) + c * (Lq * D0) + -b * (Lk * D0)) (X2 := (c - b) * (Up * D0) + c * (A0 + B0 * b) + -b * (A0 + B0 * c)) h0 (by omega) (by grind)
      · rw [if_neg cp, if_neg cp] at mq
        refine ⟨cnc (a := 1) (by decide) mq (by grind), ?_⟩
        by_cases cb : b < c
        · have k := m2 _ _ (Or.inr (Or.inr (Or.inr ⟨by omega, cb, rfl, rfl⟩)))
          exact cnc (a := 1) (by decide) k (by grind)
        · have k1 := Int.mul_le_mul_of_nonneg_left fp.2 (show 0 ≤ b - c by omega)
          have k2 := Int.mul_le_mul_of_nonneg_left fq.1 (show 0 ≤ -c by omega)
          have k3 := Int.mul_le_mul_of_nonneg_left fk.2 (show 0 ≤ -b by omega)
          exact cnc (X1 := (b - c) * (A0 + B0 * 0) + -c * (Lq * D0) + -b * (A0 + B0 * c)) (X2 := (b - c) * (Up * D0) + -c * (A0 + B0 * b) + -b * (Uk * D0)) h0 (by omega) (by grind)
/-- the least bound is reached -/
theorem lp_max {y L U : Int → Int} {m A0 B0 D0 : Int} (m0 : 0 ≤ m) (m10 : m ≤ 10) (hf : fea y L U m A0 B0 D0) (hy : ∃ i j : Int, (0 ≤ i ∧ i < m) ∧ (0 ≤ j ∧ j < m) ∧ y i < y j) : ∃ p q N E A D, ((0 ≤ p ∧ p < m) ∧ (0 ≤ q ∧ q < m) ∧ bd y L U p q N E) ∧ vtx y L U m A D ∧ A * E = N * D := by
  obtain ⟨p, q, ⟨hp, hq, hb⟩, hm⟩ := bd_min (L := L) (U := U) m0 m10 (bd_ex hy)
  have hbd := bdP_bd (L := L) (U := U) hb
  have hm2 : ∀ x z : Int, 0 ≤ x → x < m → 0 ≤ z → z < m → ∀ N E, bd y L U x z N E → bdN y L U p q * E ≤ N * bdD y p q := fun x z x0 x1 z0 z1 N E h => by
    obtain ⟨h1, h2, h3⟩ := bd_bdP h
    rw [h2, h3]
    exact hm x z x0 x1 z0 z1 h1
  generalize bdN y L U p q = N at *
  generalize bdD y p q = E at *
  have hbd0 := hbd
  unfold bd at hbd
  rcases hbd with ⟨rfl, h1, rfl, rfl⟩ | ⟨h1, h2, rfl, rfl⟩ | ⟨h1, h2, rfl, rfl⟩ | ⟨h1, h2, rfl, rfl⟩
  · have hk : ∃ k : Int, 0 ≤ k ∧ k < m ∧ y k ≠ 0 := by
      obtain ⟨i, j, hi, hj, hl⟩ := hy
      by_cases e : y i = 0
      · exact ⟨j, hj.1, hj.2, by omega⟩
      · exact ⟨i, hi.1, hi.2, e⟩
    obtain ⟨x, B, D, hx, hc, hfe⟩ := line_z m0 m10 hf hp h1 hk hm2
    refine ⟨p, p, U p, 1, U p * D, D, ⟨hp, hp, hbd0⟩, ?_, by grind⟩
    rcases hc with ⟨c1, c2, c3⟩ | ⟨c1, c2, c3⟩
    · exact ⟨p, x, U p, U x, B, hp, hx, by omega, Or.inr rfl, Or.inr rfl, by omega, c3, by rw [h1]; omega, hfe⟩
    · exact ⟨x, p, L x, U p, B, hx, hp, by omega, Or.inl rfl, Or.inr rfl, by omega, c3, by rw [c3, c2]; grind, hfe⟩
  · exact ⟨p, q, _, _, _, _, ⟨hp, hq, hbd0⟩, ⟨p, q, U p, U q, _, hp, hq, by omega, Or.inr rfl, Or.inr rfl, rfl, rfl, by grind, line_b hf hp hq h1 h2 hm2⟩, rfl⟩
  · exact ⟨p, q, _, _, _, _, ⟨hp, hq, hbd0⟩, ⟨p, q, U p, L q, _, hp, hq, by omega, Or.inr rfl, Or.inl rfl, rfl, rfl, by grind, line_p hf hp hq h1 h2 hm2⟩, rfl⟩
  · exact ⟨p, q, _, _, _, _, ⟨hp, hq, hbd0⟩, ⟨q, p, L q, U p, _, hq, hp, by omega, Or.inl rfl, Or.inr rfl, rfl, rfl, by grind, line_n hf hp hq h1 h2 hm2⟩, rfl⟩
/-- cut up -/
def cl (N D : Int) : Int := -(-N / D)
theorem cl_le {N D v : Int} (hD : 0 < D) : cl N D ≤ v ↔ N ≤ v * D := by
  unfold cl
  have h := Int.le_ediv_iff_mul_le (a := -v) (b := -N) hD
  rw [Int.neg_mul] at h
  omega
theorem cl_mono {N D N' D' : Int} (hD : 0 < D) (hD' : 0 < D') (h : N * D' ≤ N' * D) : cl N D ≤ cl N' D' := by
  rw [cl_le hD]
  have h1 := (cl_le (N := N') (v := cl N' D') hD').mp (Int.le_refl _)
  have h2 := Int.mul_le_mul_of_nonneg_left h1 (Int.le_of_lt hD)
  exact cnc (a := D') (X1 := N * D' + D * N') (X2 := N' * D + D * (cl N' D' * D')) hD' (by omega) (by grind)
/-- the greatest lean, in the class and in the reference -/
def mxC (y L U : Int → Int) (m r : Int) : Prop := (∀ p q N E : Int, (0 ≤ p ∧ p < m) → (0 ≤ q ∧ q < m) → bd y L U p q N E → r ≤ cl N E) ∧ ∃ p q N E : Int, ((0 ≤ p ∧ p < m) ∧ (0 ≤ q ∧ q < m) ∧ bd y L U p q N E) ∧ r = cl N E
def mxR (y L U : Int → Int) (m r : Int) : Prop := (∀ A D : Int, vtx y L U m A D → cl A D ≤ r) ∧ ∃ A D : Int, vtx y L U m A D ∧ r = cl A D
theorem mx_eq {y L U : Int → Int} {m r s : Int} (m0 : 0 ≤ m) (m10 : m ≤ 10) (h : mxC y L U m r) (k : mxR y L U m s) : r = s := by
  obtain ⟨h1, p, q, N, E, ⟨hp, hq, hb⟩, h2⟩ := h
  obtain ⟨k1, A, D, hv, k2⟩ := k
  have hv0 := hv
  obtain ⟨i, j, e, f, B, hi, hj, hy, -, -, -, -, -, hf⟩ := hv0
  refine Int.le_antisymm ?_ ?_
  · obtain ⟨p', q', N', E', A', D', ⟨hp', hq', hb'⟩, hv', he⟩ := lp_max m0 m10 hf ⟨i, j, hi, hj, hy⟩
    have a1 := h1 p' q' N' E' hp' hq' hb'
    have a2 := k1 A' D' hv'
    obtain ⟨i', j', e', f', B', hi', hj', hy', -, -, -, -, -, hf'⟩ := hv'
    have a3 := cl_mono (bd_pos hb') hf'.1 (show N' * D' ≤ A' * E' by omega)
    omega
  · rw [k2, h2]
    exact cl_mono hf.1 (bd_pos hb) (bd_fea hf hp hq hb)
/-- whether any line goes through -/
def hlC (y L U : Int → Int) (m : Int) : Prop := (∀ i j : Int, (0 ≤ i ∧ i < m) → (0 ≤ j ∧ j < m) → y i = y j → L j ≤ U i) ∧ ∃ p q : Int, (0 ≤ p ∧ p < m) ∧ (0 ≤ q ∧ q < m) ∧ y p < y q ∧ (∀ i j : Int, (0 ≤ i ∧ i < m) → (0 ≤ j ∧ j < m) → y i < y j → (U q - L p) * (y j - y i) ≤ (U j - L i) * (y q - y p)) ∧ ∀ i j : Int, (0 ≤ i ∧ i < m) → (0 ≤ j ∧ j < m) → y i < y j → (L j - U i) * (y q - y p) ≤ (U q - L p) * (y j - y i)
theorem hl_vtx {y L U : Int → Int} {m : Int} (h : hlC y L U m) : ∃ A D, vtx y L U m A D := by
  obtain ⟨hs, p, q, hp, hq, hy, hu, hl⟩ := h
  refine ⟨_, _, p, q, L p, U q, _, hp, hq, hy, Or.inl rfl, Or.inr rfl, rfl, rfl, rfl, by omega, fun k k0 k1 => ?_⟩
  have hk : 0 ≤ k ∧ k < m := ⟨k0, k1⟩
  have u1 := hu p k hp hk
  have u2 := hu k q hk hq
  have l1 := hl q k hq hk
  have l2 := hl k p hk hp
  have s1 := hs q k hq hk
  have s2 := hs k p hk hp
  generalize y p = a at *
  generalize y q = b at *
  generalize y k = c at *
  generalize U p = Up at *
  generalize U q = Uq at *
  generalize U k = Uk at *
  generalize L p = Lp at *
  generalize L q = Lq at *
  generalize L k = Lk at *
  clear hu hl hs
  constructor
  · by_cases e : c = b
    · have k := Int.mul_le_mul_of_nonneg_left (s1 e.symm) (show 0 ≤ b - a by omega)
      subst e
      exact cnc (a := 1) (by decide) k (by grind)
    · by_cases e2 : c < b
      · exact cnc (a := 1) (by decide) (u2 e2) (by grind)
      · exact cnc (a := 1) (by decide) (l1 (by omega)) (by grind)
  · by_cases e : c = a
    · have k := Int.mul_le_mul_of_nonneg_left (s2 e) (show 0 ≤ b - a by omega)
      subst e
      exact cnc (a := 1) (by decide) k (by grind)
    · by_cases e2 : a < c
      · exact cnc (a := 1) (by decide) (u1 e2) (by grind)
      · exact cnc (a := 1) (by decide) (l2 (by omega)) (by grind)
/-- two bounds that leave nothing -/
theorem hl_no1 {y L U : Int → Int} {m A D i j : Int} (hi : 0 ≤ i ∧ i < m) (hj : 0 ≤ j ∧ j < m) (hy : y i = y j) (h : U i < L j) : ¬ vtx y L U m A D := by
  rintro ⟨_, _, _, _, B, -, -, -, -, -, -, -, -, hD, hf⟩
  have h1 := (hf i hi.1 hi.2).2
  have h2 := (hf j hj.1 hj.2).1
  rw [hy] at h1
  have : L j ≤ U i := cnc (X1 := L j * D) (X2 := U i * D) hD (by omega) (by grind)
  omega
theorem hl_no2 {y L U : Int → Int} {m A D i j p q : Int} (hi : 0 ≤ i ∧ i < m) (hj : 0 ≤ j ∧ j < m) (hy : y i < y j) (hp : 0 ≤ p ∧ p < m) (hq : 0 ≤ q ∧ q < m) (hy2 : y p < y q) (h : (U q - L p) * (y j - y i) < (L j - U i) * (y q - y p)) : ¬ vtx y L U m A D := by
  rintro ⟨_, _, _, _, B, -, -, -, -, -, -, -, -, hD, hf⟩
  have h1 := (hf i hi.1 hi.2).2
  have h2 := (hf j hj.1 hj.2).1
  have h3 := (hf p hp.1 hp.2).1
  have h4 := (hf q hq.1 hq.2).2
  have k1 := Int.mul_le_mul_of_nonneg_left h1 (show 0 ≤ y q - y p by omega)
  have k2 := Int.mul_le_mul_of_nonneg_left h2 (show 0 ≤ y q - y p by omega)
  have k3 := Int.mul_le_mul_of_nonneg_left h3 (show 0 ≤ y j - y i by omega)
  have k4 := Int.mul_le_mul_of_nonneg_left h4 (show 0 ≤ y j - y i by omega)
  generalize y p = a at *
  generalize y q = b at *
  generalize y i = c at *
  generalize y j = d at *
  have : (L j - U i) * (b - a) ≤ (U q - L p) * (d - c) := cnc (X1 := (b - a) * (A + B * c) + (b - a) * (L j * D) + ((d - c) * (L p * D) + (d - c) * (A + B * b))) (X2 := (b - a) * (U i * D) + (b - a) * (A + B * d) + ((d - c) * (A + B * a) + (d - c) * (U q * D))) hD (by omega) (by grind)
  omega
theorem hl_no3 {y L U : Int → Int} {m A D : Int} (h : ∀ i j : Int, (0 ≤ i ∧ i < m) → (0 ≤ j ∧ j < m) → ¬ y i < y j) : ¬ vtx y L U m A D := by
  rintro ⟨i, j, _, _, _, hi, hj, hy, -⟩
  exact h i j hi hj hy
