/-! fewest ropes, in the reference -/
def tlS (d f : Int → Int) (r : Int) : Nat → Int → Int
  | 0, _ => 0
  | m + 1, k => (if f k = r then d k else 0) + tlS d f r m (k + 1)
def cpl (d : Int → Int) (L : Int) (m : Nat) (k b : Int) (rm : Int → Int) (B : Int) (f : Int → Int) : Prop := (∀ i : Int, k ≤ i → i < k + m → 0 ≤ f i ∧ f i < B) ∧ ∀ r : Int, 0 ≤ r → r < B → tlS d f r m k ≤ (if r < b then rm r else L)
theorem tlS_nn {d f : Int → Int} {r : Int} : ∀ (m : Nat) (k : Int), (∀ i : Int, k ≤ i → i < k + m → 0 ≤ d i) → 0 ≤ tlS d f r m k := by
  intro m
  induction m with
  | zero => intro k _; simp [tlS]
  | succ m ih => intro k h; have := ih (k + 1) (fun i a b => h i (by omega) (by omega)); have := h k (by omega) (by omega); simp only [tlS]; split <;> omega
theorem tlS_c {d f g : Int → Int} {r : Int} : ∀ (m : Nat) (k : Int), (∀ i : Int, k ≤ i → i < k + m → f i = g i) → tlS d f r m k = tlS d g r m k := by
  intro m
  induction m with
  | zero => intro k _; rfl
  | succ m ih => intro k h; simp only [tlS]; rw [ih (k + 1) (fun i a b => h i (by omega) (by omega)), h k (by omega) (by omega)]
def swp (a b x : Int) : Int := if x = a then b else if x = b then a else x
theorem zite_c2 {P R : Prop} [hp : Decidable P] [hr : Decidable R] {a b : Int} (h : P ↔ R) : (if P then a else b) = (if R then a else b) := zite_c h
theorem tlS_swp {d f : Int → Int} {r a b : Int} : ∀ (m : Nat) (k : Int), tlS d (fun i => swp a b (f i)) r m k = tlS d f (swp a b r) m k := by
  intro m
  induction m with
  | zero => intro k; rfl
  | succ m ih =>
    intro k
    simp only [tlS]
    rw [ih]
    congr 1
    refine zite_c2 ?_
    unfold swp
    constructor
    · intro h; split at h <;> (try split at h) <;> (split <;> (try split) <;> omega)
    · intro h; split at h <;> (try split at h) <;> (split <;> (try split) <;> omega)
theorem cpl_in {d rm f : Int → Int} {L k b B : Int} {m : Nat} (hd : ∀ i : Int, k ≤ i → i < k + (m + 1 : Nat) → 1 ≤ d i) (hr : 0 ≤ f k ∧ f k < b) (h : cpl d L (m + 1) k b rm B f) : d k ≤ rm (f k) ∧ cpl d L m (k + 1) b (fun r => if r = f k then rm r - d k else rm r) B f := by
  have nn := fun r => tlS_nn (d := d) (f := f) (r := r) m (k + 1) (fun i a c => by have := hd i (by omega) (by omega); omega)
  have hk := hd k (by omega) (by omega)
  have hB := h.1 k (by omega) (by omega)
  have h1 := h.2 (f k) hr.1 hB.2
  simp only [tlS] at h1
  rw [if_pos trivial, if_pos hr.2] at h1
  have n1 := nn (f k)
  refine ⟨by omega, fun i a c => h.1 i (by omega) (by omega), fun r a c => ?_⟩
  have h2 := h.2 r a c
  simp only [tlS] at h2
  by_cases e : f k = r
  · rw [if_pos e] at h2
    rw [if_pos (show r < b by omega)] at h2 ⊢
    show _ ≤ (if r = f k then rm r - d k else rm r)
    rw [if_pos e.symm]; omega
  · rw [if_neg e] at h2
    show _ ≤ (if r < b then (if r = f k then rm r - d k else rm r) else L)
    rw [if_neg (show ¬ r = f k from fun q => e q.symm)]
    omega
theorem cpl_out {d rm f : Int → Int} {L k b B r0 : Int} {m : Nat} (hr : 0 ≤ r0 ∧ r0 < b) (hB : b ≤ B) (h : cpl d L m (k + 1) b (fun r => if r = r0 then rm r - d k else rm r) B f) : cpl d L (m + 1) k b rm B (fun i => if i = k then r0 else f i) := by
  refine ⟨fun i a c => ?_, fun r a c => ?_⟩
  · show 0 ≤ (if i = k then r0 else f i) ∧ (if i = k then r0 else f i) < B
    by_cases e : i = k
    · rw [if_pos e]; omega
    · rw [if_neg e]; exact h.1 i (by omega) (by omega)
  · have h2 := h.2 r a c
    simp only [tlS]
    rw [tlS_c (g := f) m (k + 1) (fun i p q => if_neg (by omega))]
    simp only [if_true]
    by_cases e : r0 = r
    · rw [if_pos e]
      subst e
      rw [if_pos hr.2] at h2 ⊢
      simp only [if_true] at h2
      omega
    · rw [if_neg e]
      simp only [show ¬ r = r0 from fun q => e q.symm, if_false] at h2
      omega
theorem cpl_new {d rm f : Int → Int} {L k b B : Int} {m : Nat} (hd : ∀ i : Int, k ≤ i → i < k + (m + 1 : Nat) → 1 ≤ d i) (b0 : 0 ≤ b) (hr : b ≤ f k) (h : cpl d L (m + 1) k b rm B f) : b + 1 ≤ B ∧ ∃ g, cpl d L m (k + 1) (b + 1) (fun r => if r = b then L - d k else rm r) B g := by
  have nn := fun r => tlS_nn (d := d) (f := f) (r := r) m (k + 1) (fun i a c => by have := hd i (by omega) (by omega); omega)
  have hk := hd k (by omega) (by omega)
  have hB := h.1 k (by omega) (by omega)
  refine ⟨by omega, fun i => swp (f k) b (f i), fun i a c => ?_, fun r a c => ?_⟩
  · have := h.1 i (by omega) (by omega)
    show 0 ≤ swp (f k) b (f i) ∧ swp (f k) b (f i) < B
    unfold swp
    split
    · omega
    · split <;> omega
  · rw [tlS_swp]
    rcases Int.lt_trichotomy r b with e | e | e
    · have e1 : swp (f k) b r = r := by unfold swp; rw [if_neg (by omega), if_neg (by omega)]
      have h2 := h.2 r a c
      simp only [tlS] at h2
      rw [if_neg (by omega), if_pos e] at h2
      rw [e1, if_pos (by omega)]
      show _ ≤ (if r = b then L - d k else rm r)
      rw [if_neg (by omega)]; omega
    · have e1 : swp (f k) b r = f k := by
        unfold swp
        by_cases q : r = f k
        · rw [if_pos q]; omega
        · rw [if_neg q, if_pos e]
      have h2 := h.2 (f k) (by omega) hB.2
      simp only [tlS] at h2
      rw [if_pos trivial, if_neg (by omega)] at h2
      rw [e1, if_pos (by omega)]
      show _ ≤ (if r = b then L - d k else rm r)
      rw [if_pos e]; omega
    · rw [if_neg (by omega)]
      have hx : 0 ≤ swp (f k) b r ∧ swp (f k) b r < B ∧ b ≤ swp (f k) b r := by
        unfold swp
        split
        · omega
        · split <;> omega
      have h2 := h.2 (swp (f k) b r) hx.1 hx.2.1
      simp only [tlS] at h2
      rw [if_neg (show ¬ swp (f k) b r < b by omega)] at h2
      split at h2 <;> omega
theorem cpl_newo {d rm f : Int → Int} {L k b B : Int} {m : Nat} (b0 : 0 ≤ b) (hB : b + 1 ≤ B) (h : cpl d L m (k + 1) (b + 1) (fun r => if r = b then L - d k else rm r) B f) : cpl d L (m + 1) k b rm B (fun i => if i = k then b else f i) := by
  refine ⟨fun i a c => ?_, fun r a c => ?_⟩
  · show 0 ≤ (if i = k then b else f i) ∧ (if i = k then b else f i) < B
    by_cases e : i = k
    · rw [if_pos e]; omega
    · rw [if_neg e]; exact h.1 i (by omega) (by omega)
  · have h2 := h.2 r a c
    simp only [tlS]
    rw [tlS_c (g := f) m (k + 1) (fun i p q => if_neg (by omega))]
    simp only [if_true]
    by_cases e : b = r
    · rw [if_pos e]
      subst e
      rw [if_neg (by omega)]
      rw [if_pos (by omega)] at h2
      simp only [if_true] at h2
      omega
    · rw [if_neg e]
      simp only [show ¬ r = b from fun q => e q.symm, if_false] at h2
      by_cases g : r < b
      · rw [if_pos (by omega)] at h2; rw [if_pos g]; omega
      · rw [if_neg (by omega)] at h2; rw [if_neg g]; omega
theorem cpl_rm {d rm rm2 f : Int → Int} {L k b B : Int} {m : Nat} (hr : ∀ r : Int, 0 ≤ r → r < b → rm r = rm2 r) (h : cpl d L m k b rm B f) : cpl d L m k b rm2 B f := by
  refine ⟨h.1, fun r a c => ?_⟩
  have := h.2 r a c
  by_cases e : r < b
  · rw [if_pos e] at this ⊢; rw [← hr r a e]; exact this
  · rw [if_neg e] at this ⊢; exact this
def layF (b : Int) (w w' : zW) : Prop := (∀ c i, c ≠ 97 → (c ≠ 73 ∨ i ≠ 47) → w' c i = w c i) ∧ (∀ r : Int, r < b → w' 97 r = w 97 r) ∧ w' 73 47 ≤ w 73 47
def layQ (L : Int) (w : zW) (m : Nat) (k b : Int) (w' : zW) : Prop := layF b w w' ∧ (∀ (B : Int) (f : Int → Int), b ≤ B → cpl (w 96) L m k b (w 97) B f → w' 73 47 ≤ B) ∧ (w' 73 47 = w 73 47 ∨ (b ≤ w' 73 47 ∧ ∃ f, cpl (w 96) L m k b (w 97) (w' 73 47) f))
theorem tlS_0 {d f : Int → Int} {r : Int} : ∀ (m c : Nat), zsum c (fun i => if f i = r then d i else 0) + tlS d f r m c = zsum (c + m) (fun i => if f i = r then d i else 0) := by
  intro m
  induction m with
  | zero => intro c; simp [tlS]
  | succ m ih =>
    intro c
    have h := ih (c + 1)
    rw [show c + 1 + m = c + (m + 1) by omega] at h
    rw [← h]
    simp only [tlS, zsum]
    rw [show ((c + 1 : Nat) : Int) = (c : Int) + 1 by omega]
    omega
theorem cpl_pkA {d rm f : Int → Int} {L B : Int} {n : Nat} : cpl d L n 0 0 rm B f ↔ pkA d L n B f := by
  have e : ∀ r, tlS d f r n 0 = zsum n (fun i => if f i = r then d i else 0) := fun r => by
    have h := tlS_0 (d := d) (f := f) (r := r) n 0
    simp only [zsum, Nat.zero_add, Int.zero_add] at h
    exact h
  constructor
  · intro h
    exact ⟨fun i a b => h.1 i a (by omega), fun r a b => by have := h.2 r a b; rw [if_neg (by omega), e] at this; exact this⟩
  · intro h
    exact ⟨fun i a b => h.1 i a (by omega), fun r a b => by rw [if_neg (by omega), e]; exact h.2 r a b⟩
/-- where the loop over the ropes stands -/
def layI (L : Int) (w : zW) (m : Nat) (k b r : Int) (w1 : zW) : Prop := layF b w w1 ∧ (∀ (B : Int) (f : Int → Int), b ≤ B → f k < r → cpl (w 96) L (m + 1) k b (w 97) B f → w1 73 47 ≤ B) ∧ (w1 73 47 = w 73 47 ∨ (b ≤ w1 73 47 ∧ ∃ f, cpl (w 96) L (m + 1) k b (w 97) (w1 73 47) f))
theorem layF_tr {b b' : Int} {w w' w'' : zW} (h : layF b w w') (k : layF b' w' w'') (hb : b ≤ b') : layF b w w'' := ⟨fun c i a e => (k.1 c i a e).trans (h.1 c i a e), fun r hr => (k.2.1 r (by omega)).trans (h.2.1 r hr), by have := h.2.2; have := k.2.2; omega⟩
theorem layI_in {L k b r : Int} {w w1 w2 w3 w4 : zW} {m : Nat} (r0 : 0 ≤ r) (rb : r < b) (hd : ∀ i : Int, k ≤ i → i < k + (m + 1 : Nat) → 1 ≤ w 96 i) (h : layI L w m k b r w1) (h2 : w2 = up w1 97 r (w1 97 r - w 96 k)) (hq : layQ L w2 m (k + 1) b w3) (h4 : w4 = up w3 97 r (w3 97 r + w 96 k)) : layI L w m k b (r + 1) w4 := by
  obtain ⟨hF, hlo, hup⟩ := h
  obtain ⟨⟨g1, g2, g3⟩, g4, g5⟩ := hq
  have e96 : w2 96 = w 96 := by rw [h2]; funext i; rw [up_cell _ _ _ _ (by decide)]; exact hF.1 96 i (by decide) (Or.inl (by decide))
  have e47 : w2 73 47 = w1 73 47 := by rw [h2, up_cell _ _ _ _ (by decide)]
  have e474 : w4 73 47 = w3 73 47 := by rw [h4, up_cell _ _ _ _ (by decide)]
  have erm : ∀ x : Int, 0 ≤ x → x < b → w2 97 x = (if x = r then w 97 x - w 96 k else w 97 x) := fun x a c => by
    rw [h2]
    by_cases e : x = r
    · rw [if_pos e, e, up_same, hF.2.1 r rb]
    · rw [if_neg e, up_idx _ _ _ _ e, hF.2.1 x c]
  rw [e96] at g4 g5
  rw [e47] at g3 g5
  refine ⟨⟨fun c i a e => ?_, fun x hx => ?_, by have := hF.2.2; omega⟩, fun B f hB hf hc => ?_, ?_⟩
  · rw [h4, up_cell _ _ _ _ a, g1 c i a e, h2, up_cell _ _ _ _ a]; exact hF.1 c i a e
  · rw [h4]
    by_cases e : x = r
    · rw [e, up_same, g2 r rb, h2, up_same, hF.2.1 r rb]; omega
    · rw [up_idx _ _ _ _ e, g2 x hx, h2, up_idx _ _ _ _ e]; exact hF.2.1 x hx
  · rw [e474]
    by_cases e : f k = r
    · have hx := cpl_in hd (by have := hc.1 k (by omega) (by omega); omega) hc
      refine g4 B f hB (cpl_rm (fun x a c => ?_) hx.2)
      rw [erm x a c, e]
    · have := hlo B f hB (by omega) hc
      omega
  · rw [e474]
    rcases g5 with g5 | ⟨g5, f, g6⟩
    · rcases hup with u | ⟨u, f, v⟩
      · exact Or.inl (by omega)
      · exact Or.inr ⟨by omega, f, by rw [g5]; exact v⟩
    · exact Or.inr ⟨g5, _, cpl_out ⟨r0, rb⟩ g5 (cpl_rm (fun x a c => erm x a c) g6)⟩
theorem layI_skip {L k b r : Int} {w w1 : zW} {m : Nat} (r0 : 0 ≤ r) (rb : r < b) (hd : ∀ i : Int, k ≤ i → i < k + (m + 1 : Nat) → 1 ≤ w 96 i) (h : layI L w m k b r w1) (hs : w 97 r < w 96 k) : layI L w m k b (r + 1) w1 := by
  obtain ⟨hF, hlo, hup⟩ := h
  refine ⟨hF, fun B f hB hf hc => ?_, hup⟩
  by_cases e : f k = r
  · have hx := cpl_in hd (by have := hc.1 k (by omega) (by omega); omega) hc
    rw [e] at hx
    omega
  · exact hlo B f hB (by omega) hc
theorem layI_end {L k b : Int} {w w1 w2 w3 : zW} {m : Nat} (b0 : 0 ≤ b) (hd : ∀ i : Int, k ≤ i → i < k + (m + 1 : Nat) → 1 ≤ w 96 i) (h : layI L w m k b b w1) (h2 : w2 = up w1 97 b (L - w 96 k)) (hq : layQ L w2 m (k + 1) (b + 1) w3) : layQ L w (m + 1) k b w3 := by
  obtain ⟨hF, hlo, hup⟩ := h
  obtain ⟨⟨g1, g2, g3⟩, g4, g5⟩ := hq
  have e96 : w2 96 = w 96 := by rw [h2]; funext i; rw [up_cell _ _ _ _ (by decide)]; exact hF.1 96 i (by decide) (Or.inl (by decide))
  have e47 : w2 73 47 = w1 73 47 := by rw [h2, up_cell _ _ _ _ (by decide)]
  have erm : ∀ x : Int, 0 ≤ x → x < b + 1 → w2 97 x = (if x = b then L - w 96 k else w 97 x) := fun x a c => by
    rw [h2]
    by_cases e : x = b
    · rw [if_pos e, e, up_same]
    · rw [if_neg e, up_idx _ _ _ _ e, hF.2.1 x (by omega)]
  rw [e96] at g4 g5
  rw [e47] at g3 g5
  refine ⟨⟨fun c i a e => ?_, fun x hx => ?_, by have := hF.2.2; omega⟩, fun B f hB hc => ?_, ?_⟩
  · rw [g1 c i a e, h2, up_cell _ _ _ _ a]; exact hF.1 c i a e
  · rw [g2 x (by omega), h2, up_idx _ _ _ _ (by omega)]; exact hF.2.1 x hx
  · by_cases e : f k < b
    · have := hlo B f hB e hc; omega
    · obtain ⟨n1, g, n2⟩ := cpl_new hd b0 (by omega) hc
      exact g4 B g n1 (cpl_rm (fun x a c => (erm x a c).symm) n2)
  · rcases g5 with g5 | ⟨g5, f, g6⟩
    · rcases hup with u | ⟨u, f, v⟩
      · exact Or.inl (by omega)
      · exact Or.inr ⟨by omega, f, by rw [g5]; exact v⟩
    · exact Or.inr ⟨by omega, _, cpl_newo b0 g5 (cpl_rm (fun x a c => erm x a c) g6)⟩
set_option maxRecDepth 100000 in
set_option maxHeartbeats 4000000 in
theorem m_lay_s {l : Launch} {t dr tx : Nat} {w : zW} {m : Nat} (IH : ∀ (q : Nat), q < m → ∀ (w : zW) (k b L : Int) (k0 : 0 ≤ k) (kn : k + (q : Nat) = w 73 45) (n1 : w 73 45 ≤ 10) (b0 : 0 ≤ b) (bk : b ≤ k) (hfe : w 73 47 ≤ 11) (hfe0 : 0 ≤ w 73 47) (hL : L < 2147483648) (hrm : ∀ r : Int, 0 ≤ r → r < b → 0 ≤ w 97 r ∧ w 97 r ≤ L) (hd : ∀ i : Int, 0 ≤ i → i < w 73 45 → 1 ≤ w 96 i ∧ w 96 i ≤ L), zSp l mX12_lay false (q + 3) 0 0 [zR 73, zI k, zI b, zI L] (ZZ t dr tx) w (fun v' S' w' => v' = none ∧ S' = (ZZ t dr tx) ∧ layQ L w q k b w') zNo) {k b L : Int} (k0 : 0 ≤ k) (kn : k + (m : Nat) = w 73 45) (n1 : w 73 45 ≤ 10) (b0 : 0 ≤ b) (bk : b ≤ k) (hfe : w 73 47 ≤ 11) (hfe0 : 0 ≤ w 73 47) (hL : L < 2147483648) (hrm : ∀ r : Int, 0 ≤ r → r < b → 0 ≤ w 97 r ∧ w 97 r ≤ L) (hd : ∀ i : Int, 0 ≤ i → i < w 73 45 → 1 ≤ w 96 i ∧ w 96 i ≤ L) : zSp l mX12_lay false (m + 3) 0 0 [zR 73, zI k, zI b, zI L] (ZZ t dr tx) w (fun v' S' w' => v' = none ∧ S' = (ZZ t dr tx) ∧ layQ L w m k b w') zNo := by
  refine zA_intro ⟨plainFor_of_name (by decide +kernel), Or.inl (by decide +kernel)⟩ rfl (Nat.le_of_ble_eq_true rfl) ?_
  refine zA_range (fun hr => ?_)
  show zA l mX12_lay false (m + 3) 0 0 (fun v' S' w' => v' = none ∧ S' = (ZZ t dr tx) ∧ layQ L w m k b w') zNo 0 [zR 73, zI k, zI b, zI L, .null] [] (ZZ t dr tx) w
  refine zA_iload_n dX12_lay_0 rfl ?_
  refine zA_aload_n dX12_lay_1 rfl ?_
  refine zA_getI dX12_lay_2 fX12_441 c73 rfl ?_
  refine zA_valI (w 73 47) rfl ?_
  refine zA_icmp_lt (tgt := 9) dX12_lay_5 (by decide) (by first | assumption | exact hr _ _ | exact inR_mk (by omega) (by omega)) (by first | assumption | exact hr _ _ | exact inR_mk (by omega) (by omega)) (fun c5 => ?_) (fun c5 => ?_)
  · skip
    refine zA_iload_n dX12_lay_9 rfl ?_
    refine zA_aload_n dX12_lay_10 rfl ?_
    refine zA_getI dX12_lay_11 fX12_315 c73 rfl ?_
    refine zA_valI (w 73 45) rfl ?_
    refine zA_icmp_ne (tgt := 23) dX12_lay_14 (by decide) (by first | assumption | exact hr _ _ | exact inR_mk (by omega) (by omega)) (by first | assumption | exact hr _ _ | exact inR_mk (by omega) (by omega)) (fun c14 => ?_) (fun c14 => ?_)
    · skip
      obtain ⟨m1, hm1⟩ : ∃ m1 : Nat, m = m1 + 1 := ⟨m - 1, by omega⟩
      have hdk : ∀ i : Int, k ≤ i → i < k + (m1 + 1 : Nat) → 1 ≤ w 96 i := fun i a c => (hd i (by omega) (by omega)).1
      have hdk0 := hd k k0 (by omega)
      refine zA_iconst dX12_lay_23 ?_
      refine zA_istore (lo1 := [zR 73, zI k, zI b, zI L, zI 0]) dX12_lay_24 (by decide) rfl rfl ?_
      have L26 : ∀ (z26 : Nat) (r : Int) (w1 : zW) (r0 : 0 ≤ r) (r1 : r ≤ b) (hI : layI L w m1 k b r w1) (hz0 : 0 ≤ w1 73 47) (zm : (b - r).toNat < z26), zA l mX12_lay false (m + 3) 0 0 (fun v' S' w' => v' = none ∧ S' = (ZZ t dr tx) ∧ layQ L w m k b w') zNo 26 [zR 73, zI k, zI b, zI L, zI r] [] (ZZ t dr tx) w1 := by
        intro z26
        induction z26 with
        | zero => intro r w1 r0 r1 hI hz0 zm; exact absurd zm (Nat.not_lt_zero _)
        | succ z26 ih26 =>
          intro r w1 r0 r1 hI hz0 zm
          refine zA_range (fun hr => ?_)
          refine zA_iload dX12_lay_26 rfl ?_
          refine zA_iload_n dX12_lay_28 rfl ?_
          refine zA_icmp_ge (tgt := 98) dX12_lay_29 (by decide) (by first | assumption | exact hr _ _ | exact inR_mk (by omega) (by omega)) (by first | assumption | exact hr _ _ | exact inR_mk (by omega) (by omega)) (fun c29 => ?_) (fun c29 => ?_)
          · skip
            have e96 : w1 96 k = w 96 k := hI.1.1 96 k (by decide) (Or.inl (by decide))
            refine zA_aload_n dX12_lay_98 rfl ?_
            refine zA_getR (n := 97) dX12_lay_99 fX12_100 c73 rfl ?_
            refine zA_iload_n dX12_lay_102 rfl ?_
            refine zA_iload_n dX12_lay_103 rfl ?_
            refine zA_aload_n dX12_lay_104 rfl ?_
            refine zA_getR (n := 96) dX12_lay_105 fX12_97 c73 rfl ?_
            refine zA_iload_n dX12_lay_108 rfl ?_
            refine zA_iaload dX12_lay_109 c96 (by first | assumption | omega) (by first | assumption | omega) (by decide) ?_
            refine zA_isub dX12_lay_110 ?_
            refine zA_iastore dX12_lay_111 (by first | assumption | exact hr _ _ | exact inR_mk (by omega) (by omega)) c97 (by first | assumption | omega) (by first | assumption | omega) (by decide) ?_
            refine zA_namew (fun w_1 hw_1 => ?_)
            refine zA_range (fun hr => ?_)
            replace hw_1 : w_1 = up w1 97 b (L - (w1 96 k)) := hw_1
            have hwC : w_1 = up w1 97 b (L - w 96 k) := by rw [hw_1, e96]
            have f45 : w_1 73 45 = w 73 45 := by rw [hw_1, up_cell _ _ _ _ (by decide)]; exact hI.1.1 73 45 (by decide) (Or.inr (by decide))
            have f47 : w_1 73 47 = w1 73 47 := by rw [hw_1, up_cell _ _ _ _ (by decide)]
            have f96 : w_1 96 = w 96 := by rw [hw_1]; funext i; rw [up_cell _ _ _ _ (by decide)]; exact hI.1.1 96 i (by decide) (Or.inl (by decide))
            have hz2 := hI.1.2.2
            have frm97 : ∀ x : Int, 0 ≤ x → x < b + 1 → 0 ≤ w_1 97 x ∧ w_1 97 x ≤ L := fun x a c => by
              rw [hw_1]
              by_cases e : x = b
              · rw [e, up_same]; omega
              · have h1 := hrm x a (by omega)
                rw [up_idx _ _ _ _ e, hI.1.2.1 x (by omega)]; exact h1
            refine zA_aload_n dX12_lay_112 rfl ?_
            refine zA_iload_n dX12_lay_113 rfl ?_
            refine zA_iconst dX12_lay_114 ?_
            refine zA_iadd dX12_lay_115 ?_
            refine zA_iload_n dX12_lay_116 rfl ?_
            refine zA_iconst dX12_lay_117 ?_
            refine zA_iadd dX12_lay_118 ?_
            refine zA_iload_n dX12_lay_119 rfl ?_
            refine zA_cV (st := []) dX12_lay_120 vX12_lay kX12_444 (IH m1 (by omega) w_1 (k + 1) (b + 1) L (by omega) (by omega) (by omega) (by omega) (by omega) (by omega) (by omega) hL frm97 (by rw [f45, f96]; exact hd)) (by omega) c73 rfl rfl (Nat.le_of_ble_eq_true rfl) rfl (fun q_2_v q_2_S q_2_w q_2 => ?_)
            obtain ⟨rfl, rfl, hq⟩ := q_2
            refine zA_range (fun hr => ?_)
            show zA l mX12_lay false (m + 3) 0 0 (fun v' S' w' => v' = none ∧ S' = (ZZ t dr tx) ∧ layQ L w m k b w') zNo 123 [zR 73, zI k, zI b, zI L, zI r] [] (ZZ t dr tx) q_2_w
            refine zA_vret dX12_lay_123 rfl ?_
            rw [hm1]
            exact ⟨rfl, rfl, layI_end b0 hdk (by rw [show r = b by omega] at hI; exact hI) hwC hq⟩
          · skip
            have hrr := hrm r r0 (by omega)
            have e97 : w1 97 r = w 97 r := hI.1.2.1 r (by omega)
            have e96 : w1 96 k = w 96 k := hI.1.1 96 k (by decide) (Or.inl (by decide))
            refine zA_aload_n dX12_lay_32 rfl ?_
            refine zA_getR (n := 97) dX12_lay_33 fX12_100 c73 rfl ?_
            refine zA_iload dX12_lay_36 rfl ?_
            refine zA_iaload dX12_lay_38 c97 (by first | assumption | omega) (by first | assumption | omega) (by decide) ?_
            refine zA_aload_n dX12_lay_39 rfl ?_
            refine zA_getR (n := 96) dX12_lay_40 fX12_97 c73 rfl ?_
            refine zA_iload_n dX12_lay_43 rfl ?_
            refine zA_iaload dX12_lay_44 c96 (by first | assumption | omega) (by first | assumption | omega) (by decide) ?_
            refine zA_icmp_ge (tgt := 51) dX12_lay_45 (by decide) (by first | assumption | exact hr _ _ | exact inR_mk (by omega) (by omega)) (by first | assumption | exact hr _ _ | exact inR_mk (by omega) (by omega)) (fun c45 => ?_) (fun c45 => ?_)
            · skip
              refine zA_aload_n dX12_lay_51 rfl ?_
              refine zA_getR (n := 97) dX12_lay_52 fX12_100 c73 rfl ?_
              refine zA_iload dX12_lay_55 rfl ?_
              refine zA_dup2 dX12_lay_57 rfl rfl ?_
              refine zA_iaload dX12_lay_58 c97 (by first | assumption | omega) (by first | assumption | omega) (by decide) ?_
              refine zA_aload_n dX12_lay_59 rfl ?_
              refine zA_getR (n := 96) dX12_lay_60 fX12_97 c73 rfl ?_
              refine zA_iload_n dX12_lay_63 rfl ?_
              refine zA_iaload dX12_lay_64 c96 (by first | assumption | omega) (by first | assumption | omega) (by decide) ?_
              refine zA_isub dX12_lay_65 ?_
              refine zA_iastore dX12_lay_66 (by first | assumption | exact hr _ _ | exact inR_mk (by omega) (by omega)) c97 (by first | assumption | omega) (by first | assumption | omega) (by decide) ?_
              refine zA_namew (fun w_3 hw_3 => ?_)
              refine zA_range (fun hr => ?_)
              replace hw_3 : w_3 = up w1 97 r ((w1 97 r) - (w1 96 k)) := hw_3
              have hwA : w_3 = up w1 97 r (w1 97 r - w 96 k) := by rw [hw_3, e96]
              have f45 : w_3 73 45 = w 73 45 := by rw [hw_3, up_cell _ _ _ _ (by decide)]; exact hI.1.1 73 45 (by decide) (Or.inr (by decide))
              have f47 : w_3 73 47 = w1 73 47 := by rw [hw_3, up_cell _ _ _ _ (by decide)]
              have f96 : w_3 96 = w 96 := by rw [hw_3]; funext i; rw [up_cell _ _ _ _ (by decide)]; exact hI.1.1 96 i (by decide) (Or.inl (by decide))
              have hz2 := hI.1.2.2
              have frm97 : ∀ x : Int, 0 ≤ x → x < b → 0 ≤ w_3 97 x ∧ w_3 97 x ≤ L := fun x a c => by
                have h1 := hrm x a c
                rw [hw_3]
                by_cases e : x = r
                · rw [e, up_same]; omega
                · rw [up_idx _ _ _ _ e, hI.1.2.1 x c]; exact h1
              refine zA_aload_n dX12_lay_67 rfl ?_
              refine zA_iload_n dX12_lay_68 rfl ?_
              refine zA_iconst dX12_lay_69 ?_
              refine zA_iadd dX12_lay_70 ?_
              refine zA_iload_n dX12_lay_71 rfl ?_
              refine zA_iload_n dX12_lay_72 rfl ?_
              refine zA_cV (st := []) dX12_lay_73 vX12_lay kX12_444 (IH m1 (by omega) w_3 (k + 1) b L (by omega) (by omega) (by omega) b0 (by omega) (by omega) (by omega) hL frm97 (by rw [f45, f96]; exact hd)) (by omega) c73 rfl rfl (Nat.le_of_ble_eq_true rfl) rfl (fun q_4_v q_4_S q_4_w q_4 => ?_)
              obtain ⟨rfl, rfl, hq⟩ := q_4
              have hqn : 0 ≤ q_4_w 73 47 := by rcases hq.2.2 with h | ⟨h, -⟩ <;> omega
              have e963 : q_4_w 96 k = w 96 k := by rw [hq.1.1 96 k (by decide) (Or.inl (by decide)), f96]
              have e973 : q_4_w 97 r = w1 97 r - w 96 k := by rw [hq.1.2.1 r (by omega), hwA, up_same]
              refine zA_range (fun hr => ?_)
              show zA l mX12_lay false (m + 3) 0 0 (fun v' S' w' => v' = none ∧ S' = (ZZ t dr tx) ∧ layQ L w m k b w') zNo 76 [zR 73, zI k, zI b, zI L, zI r] [] (ZZ t dr tx) q_4_w
              refine zA_aload_n dX12_lay_76 rfl ?_
              refine zA_getR (n := 97) dX12_lay_77 fX12_100 c73 rfl ?_
              refine zA_iload dX12_lay_80 rfl ?_
              refine zA_dup2 dX12_lay_82 rfl rfl ?_
              refine zA_iaload dX12_lay_83 c97 (by first | assumption | omega) (by first | assumption | omega) (by decide) ?_
              refine zA_aload_n dX12_lay_84 rfl ?_
              refine zA_getR (n := 96) dX12_lay_85 fX12_97 c73 rfl ?_
              refine zA_iload_n dX12_lay_88 rfl ?_
              refine zA_iaload dX12_lay_89 c96 (by first | assumption | omega) (by first | assumption | omega) (by decide) ?_
              refine zA_iadd dX12_lay_90 ?_
              refine zA_iastore dX12_lay_91 (by first | assumption | exact hr _ _ | exact inR_mk (by omega) (by omega)) c97 (by first | assumption | omega) (by first | assumption | omega) (by decide) ?_
              refine zA_namew (fun w_5 hw_5 => ?_)
              refine zA_range (fun hr => ?_)
              replace hw_5 : w_5 = up q_4_w 97 r ((q_4_w 97 r) + (q_4_w 96 k)) := hw_5
              have hwB : w_5 = up q_4_w 97 r (q_4_w 97 r + w 96 k) := by rw [hw_5, e963]
              refine zA_iinc (lo1 := [zR 73, zI k, zI b, zI L, zI (r + 1)]) dX12_lay_92 rfl (by decide) rfl rfl ?_
              refine zA_goto (tgt := 26) dX12_lay_95 (by decide) ?_
              exact ih26 (r + 1) _ (by omega) (by omega) (layI_in r0 (by omega) hdk hI hwA hq hwB) (by rw [hw_5, up_cell _ _ _ _ (by decide)]; have := hq.2.2; omega) (by omega)
            · skip
              refine zA_goto (tgt := 92) dX12_lay_48 (by decide) ?_
              refine zA_iinc (lo1 := [zR 73, zI k, zI b, zI L, zI (r + 1)]) dX12_lay_92 rfl (by decide) rfl rfl ?_
              refine zA_goto (tgt := 26) dX12_lay_95 (by decide) ?_
              exact ih26 (r + 1) _ (by omega) (by omega) (layI_skip r0 (by omega) hdk hI (by omega)) hz0 (by omega)
      exact L26 _ 0 w (by omega) (by omega) ⟨⟨fun _ _ _ _ => rfl, fun _ _ => rfl, Int.le_refl _⟩, fun B f hB hf hc => (by have := hc.1 k (by omega) (by omega); omega), Or.inl rfl⟩ hfe0 (Nat.lt_succ_self _)
    · skip
      have hm0 : m = 0 := by omega
      refine zA_aload_n dX12_lay_17 rfl ?_
      refine zA_iload_n dX12_lay_18 rfl ?_
      refine zA_putI dX12_lay_19 fX12_441 c73 rfl (by first | assumption | exact hr _ _ | exact inR_mk (by omega) (by omega)) ⟨rfl, rfl⟩ ?_
      refine zA_namew (fun w_6 hw_6 => ?_)
      refine zA_range (fun hr => ?_)
      replace hw_6 : w_6 = up w 73 47 b := hw_6
      refine zA_vret dX12_lay_22 rfl ?_
      subst hm0
      refine ⟨rfl, rfl, ⟨fun c i a e => ?_, fun r hr => by rw [hw_6, up_cell _ _ _ _ (by decide)], by rw [hw_6, up_same]; omega⟩, fun B f hB hc => by rw [hw_6, up_same]; exact hB, Or.inr ⟨by rw [hw_6, up_same]; omega, fun _ => 0, ?_⟩⟩
      · by_cases hc : c = 73
        · subst hc; rw [hw_6, up_idx _ _ _ _ (by omega)]
        · rw [hw_6, up_cell _ _ _ _ hc]
      · rw [hw_6, up_same]
        refine ⟨fun i a c => by omega, fun r a c => ?_⟩
        rw [if_pos c]
        exact (hrm r a c).1
  · skip
    refine zA_vret dX12_lay_8 rfl ?_
    exact ⟨rfl, rfl, ⟨fun _ _ _ _ => rfl, fun _ _ => rfl, Int.le_refl _⟩, fun B f hB hc => by omega, Or.inl rfl⟩

theorem m_lay {l : Launch} {t dr tx : Nat} : ∀ (m : Nat) (w : zW) (k b L : Int) (k0 : 0 ≤ k) (kn : k + (m : Nat) = w 73 45) (n1 : w 73 45 ≤ 10) (b0 : 0 ≤ b) (bk : b ≤ k) (hfe : w 73 47 ≤ 11) (hfe0 : 0 ≤ w 73 47) (hL : L < 2147483648) (hrm : ∀ r : Int, 0 ≤ r → r < b → 0 ≤ w 97 r ∧ w 97 r ≤ L) (hd : ∀ i : Int, 0 ≤ i → i < w 73 45 → 1 ≤ w 96 i ∧ w 96 i ≤ L), zSp l mX12_lay false (m + 3) 0 0 [zR 73, zI k, zI b, zI L] (ZZ t dr tx) w (fun v' S' w' => v' = none ∧ S' = (ZZ t dr tx) ∧ layQ L w m k b w') zNo := by
  intro m
  induction m using Nat.strongRecOn with
  | _ m ih =>
    intro w k b L h1 h2 h3 h4 h5 h6 h7 h8 h9 h10
    exact m_lay_s (m := m) ih h1 h2 h3 h4 h5 h6 h7 h8 h9 h10
set_option maxRecDepth 100000 in
set_option maxHeartbeats 4000000 in
theorem m_ropes {l : Launch} {t dr tx : Nat} {w : zW} {L : Int} (hL : inR L) (n0 : 0 ≤ w 73 45) (n1 : w 73 45 ≤ 10) (hd : ∀ i : Int, 0 ≤ i → i < w 73 45 → 1 ≤ w 96 i ∧ w 96 i ≤ 9999) : zSp l mX12_ropes false 15 0 0 [zR 73, zI L] (ZZ t dr tx) w (fun v' S' w' => S' = (ZZ t dr tx) ∧ (∀ c i, c ≠ 97 → (c ≠ 73 ∨ (i ≠ 1 ∧ i ≠ 45 ∧ i ≠ 47)) → w' c i = w c i) ∧ w' 73 1 = 0 ∧ w' 73 45 = 0 ∧ ((∃ i : Int, (0 ≤ i ∧ i < w 73 45) ∧ L < w 96 i) ∧ v' = some (zI (-1)) ∨ (∀ i : Int, 0 ≤ i → i < w 73 45 → w 96 i ≤ L) ∧ ∃ r, v' = some (zI r) ∧ isOpt (w 96) L (w 73 45).toNat r)) zNo := by
  refine zA_intro ⟨plainFor_of_name (by decide +kernel), Or.inl (by decide +kernel)⟩ rfl (Nat.le_of_ble_eq_true rfl) ?_
  refine zA_range (fun hr => ?_)
  show zA l mX12_ropes false 15 0 0 (fun v' S' w' => S' = (ZZ t dr tx) ∧ (∀ c i, c ≠ 97 → (c ≠ 73 ∨ (i ≠ 1 ∧ i ≠ 45 ∧ i ≠ 47)) → w' c i = w c i) ∧ w' 73 1 = 0 ∧ w' 73 45 = 0 ∧ ((∃ i : Int, (0 ≤ i ∧ i < w 73 45) ∧ L < w 96 i) ∧ v' = some (zI (-1)) ∨ (∀ i : Int, 0 ≤ i → i < w 73 45 → w 96 i ≤ L) ∧ ∃ r, v' = some (zI r) ∧ isOpt (w 96) L (w 73 45).toNat r)) zNo 0 [zR 73, zI L, .null, .null] [] (ZZ t dr tx) w
  refine zA_aload_n dX12_ropes_0 rfl ?_
  refine zA_iconst dX12_ropes_1 ?_
  refine zA_putI dX12_ropes_2 fX12_182 c73 rfl ⟨by decide, by decide⟩ ⟨rfl, rfl⟩ ?_
  refine zA_namew (fun w_1 hw_1 => ?_)
  refine zA_range (fun hr => ?_)
  replace hw_1 : w_1 = up w 73 1 0 := hw_1
  have ef : ∀ cc i, cc ≠ 73 → w_1 cc i = w cc i := fun cc i h => by rw [hw_1, up_cell _ _ _ _ h]
  have e73 : ∀ i, i ≠ 1 → w_1 73 i = w 73 i := fun i h => by rw [hw_1, up_idx _ _ _ _ h]
  have e45 : w_1 73 45 = w 73 45 := e73 45 (by decide)
  refine zA_iconst dX12_ropes_5 ?_
  refine zA_istore_n (lo1 := [zR 73, zI L, zI 0, .null]) dX12_ropes_6 (by decide) rfl rfl ?_
  refine zA_iconst dX12_ropes_7 ?_
  refine zA_istore_n (lo1 := [zR 73, zI L, zI 0, zI 0]) dX12_ropes_8 (by decide) rfl rfl ?_
  have L9 : ∀ (z9 : Nat) (c i : Int) (i0 : 0 ≤ i) (i1 : i ≤ w 73 45) (hc0 : 0 ≤ c) (hc1 : c ≤ i) (hc : (c = 0 ∧ ∀ j : Int, 0 ≤ j → j < i → w 96 j ≤ L) ∨ (1 ≤ c ∧ ∃ j : Int, (0 ≤ j ∧ j < i) ∧ L < w 96 j)) (zm : (w 73 45 - i).toNat < z9), zA l mX12_ropes false 15 0 0 (fun v' S' w' => S' = (ZZ t dr tx) ∧ (∀ c i, c ≠ 97 → (c ≠ 73 ∨ (i ≠ 1 ∧ i ≠ 45 ∧ i ≠ 47)) → w' c i = w c i) ∧ w' 73 1 = 0 ∧ w' 73 45 = 0 ∧ ((∃ i : Int, (0 ≤ i ∧ i < w 73 45) ∧ L < w 96 i) ∧ v' = some (zI (-1)) ∨ (∀ i : Int, 0 ≤ i → i < w 73 45 → w 96 i ≤ L) ∧ ∃ r, v' = some (zI r) ∧ isOpt (w 96) L (w 73 45).toNat r)) zNo 9 [zR 73, zI L, zI c, zI i] [] (ZZ t dr tx) w_1 := by
    intro z9
    induction z9 with
    | zero => intro c i i0 i1 hc0 hc1 hc zm; exact absurd zm (Nat.not_lt_zero _)
    | succ z9 ih9 =>
      intro c i i0 i1 hc0 hc1 hc zm
      refine zA_iload_n dX12_ropes_9 rfl ?_
      refine zA_aload_n dX12_ropes_10 rfl ?_
      refine zA_getI dX12_ropes_11 fX12_315 c73 rfl ?_
      refine zA_valI (w_1 73 45) rfl ?_
      refine zA_icmp_ge (tgt := 41) dX12_ropes_14 (by decide) (by first | assumption | exact hr _ _ | exact inR_mk (by omega) (by omega)) (by first | assumption | exact hr _ _ | exact inR_mk (by omega) (by omega)) (fun c14 => ?_) (fun c14 => ?_)
      · skip
        refine zA_aload_n dX12_ropes_41 rfl ?_
        refine zA_aload_n dX12_ropes_42 rfl ?_
        refine zA_getI dX12_ropes_43 fX12_315 c73 rfl ?_
        refine zA_valI (w_1 73 45) rfl ?_
        refine zA_iconst dX12_ropes_46 ?_
        refine zA_iadd dX12_ropes_47 ?_
        refine zA_putI dX12_ropes_48 fX12_441 c73 rfl (by first | assumption | exact hr _ _ | exact inR_mk (by omega) (by omega)) ⟨rfl, rfl⟩ ?_
        refine zA_namew (fun w_2 hw_2 => ?_)
        refine zA_range (fun hr => ?_)
        replace hw_2 : w_2 = up w_1 73 47 ((w_1 73 45) + 1) := hw_2
        have g73 : ∀ i, i ≠ 1 → i ≠ 47 → w_2 73 i = w 73 i := fun i h h2 => by rw [hw_2, up_idx _ _ _ _ h2]; exact e73 i h
        have gf : ∀ cc i, cc ≠ 73 → w_2 cc i = w cc i := fun cc i h => by rw [hw_2, up_cell _ _ _ _ h]; exact ef cc i h
        have g47 : w_2 73 47 = w 73 45 + 1 := by rw [hw_2, up_same, e45]
        have g45 : w_2 73 45 = w 73 45 := g73 45 (by decide) (by decide)
        have g1 : w_2 73 1 = 0 := by rw [hw_2, up_idx _ _ _ _ (by decide), hw_1, up_same]
        refine zA_iload_n dX12_ropes_51 rfl ?_
        refine zA_if_ne (tgt := 62) dX12_ropes_52 (by decide) (by first | assumption | exact hr _ _ | exact inR_mk (by omega) (by omega)) (fun c52 => ?_) (fun c52 => ?_)
        · skip
          have hsome : ∃ j : Int, (0 ≤ j ∧ j < w 73 45) ∧ L < w 96 j := by
            rcases hc with ⟨h1, -⟩ | ⟨-, j, h2, h3⟩
            · exact absurd h1 c52
            · exact ⟨j, by omega, h3⟩
          refine zA_aload_n dX12_ropes_62 rfl ?_
          refine zA_iconst dX12_ropes_63 ?_
          refine zA_putI dX12_ropes_64 fX12_315 c73 rfl ⟨by decide, by decide⟩ ⟨rfl, rfl⟩ ?_
          refine zA_namew (fun w_3 hw_3 => ?_)
          refine zA_range (fun hr => ?_)
          replace hw_3 : w_3 = up w_2 73 45 0 := hw_3
          refine zA_iload_n dX12_ropes_67 rfl ?_
          refine zA_if_ne (tgt := 78) dX12_ropes_68 (by decide) (by first | assumption | exact hr _ _ | exact inR_mk (by omega) (by omega)) (fun c68 => ?_) (fun c68 => ?_)
          · skip
            refine zA_iconst dX12_ropes_78 ?_
            refine zA_iret dX12_ropes_79 rfl ?_
            have hy : ∀ i, i ≠ 45 → w_3 73 i = w_2 73 i := fun i h => by rw [hw_3, up_idx _ _ _ _ h]
            have hy2 : ∀ c i, c ≠ 73 → w_3 c i = w_2 c i := fun c i h => by rw [hw_3, up_cell _ _ _ _ h]
            refine ⟨rfl, fun c i a e => ?_, ?_, by rw [hw_3, up_same], Or.inl ⟨hsome, rfl⟩⟩
            · by_cases hcc : c = 73
              · subst hcc; rw [hy i (by omega)]; exact g73 i (by omega) (by omega)
              · rw [hy2 c i hcc]; exact gf c i hcc
            · rw [hy 1 (by decide)]; exact g1
          · skip
            refine zA_aload_n dX12_ropes_71 rfl ?_
            refine zA_getI dX12_ropes_72 fX12_441 c73 rfl ?_
            refine zA_valI (w_3 73 47) rfl ?_
            refine zA_goto (tgt := 79) dX12_ropes_75 (by decide) ?_
            refine zA_iret dX12_ropes_79 rfl ?_
            exfalso; omega
        · skip
          have hall : ∀ j : Int, 0 ≤ j → j < w 73 45 → w 96 j ≤ L := by
            rcases hc with ⟨h1, h2⟩ | ⟨h1, -⟩
            · exact fun j a b => h2 j a (by omega)
            · omega
          refine zA_aload_n dX12_ropes_55 rfl ?_
          refine zA_iconst dX12_ropes_56 ?_
          refine zA_iconst dX12_ropes_57 ?_
          refine zA_iload_n dX12_ropes_58 rfl ?_
          refine zA_cV (st := []) dX12_ropes_59 vX12_lay kX12_444 (m_lay (w 73 45).toNat w_2 0 0 L (by decide) (by omega) (by omega) (by decide) (by decide) (by omega) (by omega) hL.2 (fun r a b => by omega) (fun i a b => by rw [g45] at b; rw [gf 96 i (by decide)]; exact ⟨(hd i a b).1, hall i a b⟩)) (by omega) c73 rfl rfl (Nat.le_of_ble_eq_true rfl) rfl (fun q_4_v q_4_S q_4_w q_4 => ?_)
          obtain ⟨rfl, rfl, hq⟩ := q_4
          obtain ⟨⟨q1, -, q3⟩, q4, q5⟩ := hq
          have f96 : w_2 96 = w 96 := funext fun i => gf 96 i (by decide)
          rw [f96] at q4 q5
          have hid : pkA (w 96) L (w 73 45).toNat (w 73 45) (fun j => j) := ⟨fun j a b => by
            show 0 ≤ j ∧ j < w 73 45
            omega, fun r a b => by
            have h2 := zsum_at (f := fun k : Nat => if (k : Int) = r then w 96 k else 0) (g := fun _ => 0) (w 73 45).toNat r.toNat (by omega) (fun k hk hn => by
              show (if (k : Int) = r then w 96 k else 0) = 0
              rw [if_neg (fun q => hn (by omega))])
            have h3 : zsum (w 73 45).toNat (fun _ : Nat => (0 : Int)) = 0 := zsum0 _ (fun _ _ => rfl)
            simp only [zcast a, if_true] at h2
            have h4 := hall r a (by omega)
            show zsum (w 73 45).toNat (fun k : Nat => if (k : Int) = r then w 96 k else 0) ≤ L
            omega⟩
          have q6 := q4 (w 73 45) (fun j => j) n0 (cpl_pkA.mpr hid)
          have hopt : isOpt (w 96) L (w 73 45).toNat (q_4_w 73 47) := by
            rcases q5 with q5 | ⟨q5, f, q7⟩
            · omega
            · exact ⟨q5, ⟨f, cpl_pkA.mp q7⟩, fun b g hb hg => q4 b g hb (cpl_pkA.mpr hg)⟩
          have hor := hopt.1
          refine zA_range (fun hr => ?_)
          show zA l mX12_ropes false 15 0 0 (fun v' S' w' => S' = (ZZ t dr tx) ∧ (∀ c i, c ≠ 97 → (c ≠ 73 ∨ (i ≠ 1 ∧ i ≠ 45 ∧ i ≠ 47)) → w' c i = w c i) ∧ w' 73 1 = 0 ∧ w' 73 45 = 0 ∧ ((∃ i : Int, (0 ≤ i ∧ i < w 73 45) ∧ L < w 96 i) ∧ v' = some (zI (-1)) ∨ (∀ i : Int, 0 ≤ i → i < w 73 45 → w 96 i ≤ L) ∧ ∃ r, v' = some (zI r) ∧ isOpt (w 96) L (w 73 45).toNat r)) zNo 62 [zR 73, zI L, zI c, zI i] [] (ZZ t dr tx) q_4_w
          refine zA_aload_n dX12_ropes_62 rfl ?_
          refine zA_iconst dX12_ropes_63 ?_
          refine zA_putI dX12_ropes_64 fX12_315 c73 rfl ⟨by decide, by decide⟩ ⟨rfl, rfl⟩ ?_
          refine zA_namew (fun w_5 hw_5 => ?_)
          refine zA_range (fun hr => ?_)
          replace hw_5 : w_5 = up q_4_w 73 45 0 := hw_5
          refine zA_iload_n dX12_ropes_67 rfl ?_
          refine zA_if_ne (tgt := 78) dX12_ropes_68 (by decide) (by first | assumption | exact hr _ _ | exact inR_mk (by omega) (by omega)) (fun c68 => ?_) (fun c68 => ?_)
          · skip
            refine zA_iconst dX12_ropes_78 ?_
            refine zA_iret dX12_ropes_79 rfl ?_
            exfalso; omega
          · skip
            refine zA_aload_n dX12_ropes_71 rfl ?_
            refine zA_getI dX12_ropes_72 fX12_441 c73 rfl ?_
            refine zA_valI (w_5 73 47) rfl ?_
            refine zA_goto (tgt := 79) dX12_ropes_75 (by decide) ?_
            refine zA_iret dX12_ropes_79 rfl ?_
            have hy : ∀ i, i ≠ 45 → w_5 73 i = q_4_w 73 i := fun i h => by rw [hw_5, up_idx _ _ _ _ h]
            have hy2 : ∀ c i, c ≠ 73 → w_5 c i = q_4_w c i := fun c i h => by rw [hw_5, up_cell _ _ _ _ h]
            refine ⟨rfl, fun c i a e => ?_, ?_, by rw [hw_5, up_same], Or.inr ⟨hall, _, by rw [hy 47 (by decide)], hopt⟩⟩
            · by_cases hcc : c = 73
              · subst hcc; rw [hy i (by omega), q1 73 i (by decide) (by omega)]; exact g73 i (by omega) (by omega)
              · rw [hy2 c i hcc, q1 c i a (Or.inl hcc)]; exact gf c i hcc
            · rw [hy 1 (by decide), q1 73 1 (by decide) (Or.inr (by decide))]; exact g1
      · skip
        have e96 : w_1 96 i = w 96 i := ef 96 i (by decide)
        refine zA_iload_n dX12_ropes_17 rfl ?_
        refine zA_aload_n dX12_ropes_18 rfl ?_
        refine zA_getR (n := 96) dX12_ropes_19 fX12_97 c73 rfl ?_
        refine zA_iload_n dX12_ropes_22 rfl ?_
        refine zA_iaload dX12_ropes_23 c96 (by first | assumption | omega) (by first | assumption | omega) (by decide) ?_
        refine zA_iload_n dX12_ropes_24 rfl ?_
        refine zA_icmp_le (tgt := 32) dX12_ropes_25 (by decide) (by first | assumption | exact hr _ _ | exact inR_mk (by omega) (by omega)) (by first | assumption | exact hr _ _ | exact inR_mk (by omega) (by omega)) (fun c25 => ?_) (fun c25 => ?_)
        · skip
          refine zA_iconst dX12_ropes_32 ?_
          refine zA_iadd dX12_ropes_33 ?_
          refine zA_istore_n (lo1 := [zR 73, zI L, zI (c + 0), zI i]) dX12_ropes_34 (by decide) rfl rfl ?_
          refine zA_iinc (lo1 := [zR 73, zI L, zI (c + 0), zI (i + 1)]) dX12_ropes_35 rfl (by decide) rfl rfl ?_
          refine zA_goto (tgt := 9) dX12_ropes_38 (by decide) ?_
          exact ih9 _ (i + 1) (by omega) (by omega) (by clear hc; omega) (by clear hc; omega) (by
                      rcases hc with ⟨h1, h2⟩ | ⟨h1, j, h2, h3⟩
                      · exact Or.inl ⟨by omega, fun j a b => (by
                          by_cases e : j = i
                          · rw [e]; omega
                          · exact h2 j a (by omega))⟩
                      · exact Or.inr ⟨by omega, j, by omega, h3⟩) (by clear hc; omega)
        · skip
          refine zA_iconst dX12_ropes_28 ?_
          refine zA_goto (tgt := 33) dX12_ropes_29 (by decide) ?_
          refine zA_iadd dX12_ropes_33 ?_
          refine zA_istore_n (lo1 := [zR 73, zI L, zI (c + 1), zI i]) dX12_ropes_34 (by decide) rfl rfl ?_
          refine zA_iinc (lo1 := [zR 73, zI L, zI (c + 1), zI (i + 1)]) dX12_ropes_35 rfl (by decide) rfl rfl ?_
          refine zA_goto (tgt := 9) dX12_ropes_38 (by decide) ?_
          exact ih9 _ (i + 1) (by omega) (by omega) (by clear hc; omega) (by clear hc; omega) (by
                      rcases hc with ⟨h1, h2⟩ | ⟨h1, j, h2, h3⟩
                      · exact Or.inr ⟨by omega, i, by omega, by omega⟩
                      · exact Or.inr ⟨by omega, j, by omega, h3⟩) (by clear hc; omega)
  exact L9 _ 0 0 (by omega) (by omega) (by omega) (by omega) (Or.inl ⟨rfl, fun j a b => by omega⟩) (Nat.lt_succ_self _)

