/-! the ground of the public methods: what they throw, ites, forms of answers -/
abbrev zNSE : String := "java/util/NoSuchElementException"
abbrev zIAE : String := "java/lang/IllegalArgumentException"
def zXp (P1 P2 : Prop) (S : zS) (w : zW) : String → zS → zW → Prop := fun E S' w' => ((E = zNSE ∧ P1) ∨ (E = zIAE ∧ P2)) ∧ S' = S ∧ w' = w
theorem zXp_m {M : zM} {P1 P2 P1' P2' : Prop} {S : zS} {w : zW} (hM : M.2.2.2.2 = []) (h1 : P1' → P1) (h2 : P2' → P2) : ∀ E S' w', zXp P1' P2' S w E S' w' → zXp P1 P2 S w E S' w' ∧ M.2.2.2.2 = [] := by
  intro E S' w' h
  refine ⟨⟨?_, h.2⟩, hM⟩
  rcases h.1 with ⟨h, k⟩ | ⟨h, k⟩
  · exact Or.inl ⟨h, h1 k⟩
  · exact Or.inr ⟨h, h2 k⟩
def zRa (P : Prop) (S : zS) (w : zW) : Option Value → zS → zW → Prop := fun v' S' w' => v' = none ∧ P ∧ S' = S ∧ w' = w
/-- sets something, or says no -/
def zBs (P C : Prop) (S : zS) (w w1 : zW) : Option Value → zS → zW → Prop := fun v' S' w' => S' = S ∧ P ∧ ((C ∧ v' = some (zI 1) ∧ w' = w1) ∨ (¬ C ∧ v' = some (zI 0) ∧ w' = w))
/-- answers a number -/
def zIs (P : Prop) (a : Int) (S : zS) (w1 : zW) : Option Value → zS → zW → Prop := fun v' S' w' => P ∧ v' = some (zI a) ∧ S' = S ∧ w' = w1
/-- the reference's: refused (1, 2), or a number -/
def zMq (P1 P2 : Prop) (a : Int) (S : zS) (w w1 : zW) : Option Value → zS → zW → Prop := fun v' S' w' => S' = S ∧ ((P1 ∧ v' = some (zI 0) ∧ w' = up w 73 1 1) ∨ (¬ P1 ∧ P2 ∧ v' = some (zI 0) ∧ w' = up w 73 1 2) ∨ (¬ P1 ∧ ¬ P2 ∧ v' = some (zI a) ∧ w' = w1))
def zMb (P1 C : Prop) (S : zS) (w w1 : zW) : Option Value → zS → zW → Prop := fun v' S' w' => S' = S ∧ ((P1 ∧ v' = some (zI 0) ∧ w' = up w 73 1 1) ∨ (¬ P1 ∧ ¬ C ∧ v' = some (zI 0) ∧ w' = up w 73 1 0) ∨ (¬ P1 ∧ C ∧ v' = some (zI 1) ∧ w' = w1))
section ZD
variable {l : Launch} {M : zM} {gr : Bool} {d bc bs : Nat} {Q : Option Value → zS → zW → Prop} {X : String → zS → zW → Prop} {pc : Nat} {lo : List Value}
theorem zRa_el {P : Prop} {S0 : zS} {w0 : zW} {st : List Value} (kk : P → zA l M gr d bc bs Q X pc lo st S0 w0) : ∀ v' S' w', zRa P S0 w0 v' S' w' → zA l M gr d bc bs Q X pc lo (v'.toList ++ st) S' w' := by
  intro v' S' w' h
  obtain ⟨rfl, h, rfl, rfl⟩ := h
  exact kk h
end ZD
theorem zite_ne {P : Prop} [hp : Decidable P] (h : (if P then (1 : Int) else 0) ≠ 0) : P := by
  by_cases hp : P
  · exact hp
  · rw [if_neg hp] at h; exact absurd rfl h
theorem zite_eq {P : Prop} [hp : Decidable P] (h : (if P then (1 : Int) else 0) = 0) : ¬ P := fun hp => by rw [if_pos hp] at h; exact absurd h (by decide)
theorem inR_ite (P : Prop) [hp : Decidable P] : inR (if P then (1 : Int) else 0) := by
  split
  · exact ⟨by decide, by decide⟩
  · exact ⟨by decide, by decide⟩
theorem up_up (w : zW) (c : Nat) (i a b : Int) : up (up w c i a) c i b = up w c i b := by
  funext x y
  unfold up
  split <;> rfl
theorem zite_c {P P' : Prop} [hp : Decidable P] [hp' : Decidable P'] {a b : Int} (h : P ↔ P') : (if P then a else b) = (if P' then a else b) := by
  by_cases hq : P
  · rw [if_pos hq, if_pos (h.mp hq)]
  · rw [if_neg hq, if_neg (fun k => hq (h.mpr k))]
set_option maxRecDepth 100000 in
set_option maxHeartbeats 4000000 in
theorem s_between {l : Launch} {w : zW} {S : zS} {a b e : Int} (ha : inR a) (hb : inR b) (he : inR e) : zSp l mX11_between false 1 0 0 [zI a, zI b, zI e] S w (zRt (some (zI (if a ≤ b ∧ b ≤ e then 1 else 0))) S w) zNo := by
  refine zA_intro ⟨plainFor_of_name (by decide +kernel), Or.inl (by decide +kernel)⟩ rfl (Nat.le_of_ble_eq_true rfl) ?_
  refine zA_range (fun hr => ?_)
  show zA l mX11_between false 1 0 0 (zRt (some (zI (if a ≤ b ∧ b ≤ e then 1 else 0))) S w) zNo 0 [zI a, zI b, zI e] [] S w
  refine zA_iload_n dX11_between_0 rfl ?_
  refine zA_iload_n dX11_between_1 rfl ?_
  refine zA_icmp_lt (tgt := 14) dX11_between_2 (by decide) (by first | assumption | exact hr _ _ | exact inR_mk (by omega) (by omega)) (by first | assumption | exact hr _ _ | exact inR_mk (by omega) (by omega)) (fun c2 => ?_) (fun c2 => ?_)
  · skip
    refine zA_iconst dX11_between_14 ?_
    refine zA_zret dX11_between_15 rfl (Or.inl rfl) ?_
    exact zRt_i (by split <;> first | rfl | omega)
  · skip
    refine zA_iload_n dX11_between_5 rfl ?_
    refine zA_iload_n dX11_between_6 rfl ?_
    refine zA_icmp_gt (tgt := 14) dX11_between_7 (by decide) (by first | assumption | exact hr _ _ | exact inR_mk (by omega) (by omega)) (by first | assumption | exact hr _ _ | exact inR_mk (by omega) (by omega)) (fun c7 => ?_) (fun c7 => ?_)
    · skip
      refine zA_iconst dX11_between_14 ?_
      refine zA_zret dX11_between_15 rfl (Or.inl rfl) ?_
      exact zRt_i (by split <;> first | rfl | omega)
    · skip
      refine zA_iconst dX11_between_10 ?_
      refine zA_goto (tgt := 15) dX11_between_11 (by decide) ?_
      refine zA_zret dX11_between_15 rfl (Or.inr rfl) ?_
      exact zRt_i (by split <;> first | rfl | omega)

set_option maxRecDepth 100000 in
set_option maxHeartbeats 4000000 in
theorem s_askChimney {l : Launch} {t dr tx : Nat} {w : zW} (ht : t = 4 ∨ t = 10) {c : Int} (hc : inR c) : zSp l mX11_askChimney false 1 1 6 [zR 0, zI c] (ZZ t dr tx) w (zRa (0 ≤ c ∧ c < w t 5) (ZZ t dr tx) w) (zXp (¬ (0 ≤ c ∧ c < w t 5)) (False) (ZZ t dr tx) w) := by
  refine zA_intro ⟨plainFor_of_name (by decide +kernel), Or.inl (by decide +kernel)⟩ rfl (Nat.le_of_ble_eq_true rfl) ?_
  refine zA_range (fun hr => ?_)
  show zA l mX11_askChimney false 1 1 6 (zRa (0 ≤ c ∧ c < w t 5) (ZZ t dr tx) w) (zXp (¬ (0 ≤ c ∧ c < w t 5)) (False) (ZZ t dr tx) w) 0 [zR 0, zI c] [] (ZZ t dr tx) w
  refine zA_iload_n dX11_askChimney_0 rfl ?_
  refine zA_if_lt (tgt := 15) dX11_askChimney_1 (by decide) (by first | assumption | exact hr _ _ | exact inR_mk (by omega) (by omega)) (fun c1 => ?_) (fun c1 => ?_)
  · skip
    refine zA_throw (sa := 1103) (zNSE_n dX11_askChimney_15 dX11_askChimney_18 ⟨dX11_askChimney_19, dX11_askChimney_21, dX11_askChimney_24⟩) (List.mem_of_getElem? (i := 3) rfl) rfl rfl (Nat.le_of_ble_eq_true rfl) (by decide) ?_
    exact ⟨Or.inl ⟨rfl, by omega⟩, rfl, rfl⟩
  · skip
    refine zA_iload_n dX11_askChimney_4 rfl ?_
    refine zA_aload_n dX11_askChimney_5 rfl ?_
    refine zA_getR (n := t) dX11_askChimney_6 fX11_30 c0 rfl ?_
    refine zA_getI dX11_askChimney_9 fX11_136 (cY0 ht) rfl ?_
    refine zA_valI (w t 5) rfl ?_
    refine zA_icmp_lt (tgt := 25) dX11_askChimney_12 (by decide) (by first | assumption | exact hr _ _ | exact inR_mk (by omega) (by omega)) (by first | assumption | exact hr _ _ | exact inR_mk (by omega) (by omega)) (fun c12 => ?_) (fun c12 => ?_)
    · skip
      refine zA_vret dX11_askChimney_25 rfl ?_
      exact ⟨rfl, by omega, rfl, rfl⟩
    · skip
      refine zA_throw (sa := 1103) (zNSE_n dX11_askChimney_15 dX11_askChimney_18 ⟨dX11_askChimney_19, dX11_askChimney_21, dX11_askChimney_24⟩) (List.mem_of_getElem? (i := 3) rfl) rfl rfl (Nat.le_of_ble_eq_true rfl) (by decide) ?_
      exact ⟨Or.inl ⟨rfl, by omega⟩, rfl, rfl⟩

set_option maxRecDepth 100000 in
set_option maxHeartbeats 4000000 in
theorem s_askLetter {l : Launch} {t dr tx : Nat} {w : zW} (ht : t = 4 ∨ t = 10) {c : Int} (hc : inR c) : zSp l mX11_askLetter false 1 1 6 [zR 0, zI c] (ZZ t dr tx) w (zRa (0 ≤ c ∧ c < w t 7) (ZZ t dr tx) w) (zXp (¬ (0 ≤ c ∧ c < w t 7)) (False) (ZZ t dr tx) w) := by
  refine zA_intro ⟨plainFor_of_name (by decide +kernel), Or.inl (by decide +kernel)⟩ rfl (Nat.le_of_ble_eq_true rfl) ?_
  refine zA_range (fun hr => ?_)
  show zA l mX11_askLetter false 1 1 6 (zRa (0 ≤ c ∧ c < w t 7) (ZZ t dr tx) w) (zXp (¬ (0 ≤ c ∧ c < w t 7)) (False) (ZZ t dr tx) w) 0 [zR 0, zI c] [] (ZZ t dr tx) w
  refine zA_iload_n dX11_askLetter_0 rfl ?_
  refine zA_if_lt (tgt := 15) dX11_askLetter_1 (by decide) (by first | assumption | exact hr _ _ | exact inR_mk (by omega) (by omega)) (fun c1 => ?_) (fun c1 => ?_)
  · skip
    refine zA_throw (sa := 1104) (zNSE_n dX11_askLetter_15 dX11_askLetter_18 ⟨dX11_askLetter_19, dX11_askLetter_21, dX11_askLetter_24⟩) (List.mem_of_getElem? (i := 4) rfl) rfl rfl (Nat.le_of_ble_eq_true rfl) (by decide) ?_
    exact ⟨Or.inl ⟨rfl, by omega⟩, rfl, rfl⟩
  · skip
    refine zA_iload_n dX11_askLetter_4 rfl ?_
    refine zA_aload_n dX11_askLetter_5 rfl ?_
    refine zA_getR (n := t) dX11_askLetter_6 fX11_30 c0 rfl ?_
    refine zA_getI dX11_askLetter_9 fX11_139 (cY0 ht) rfl ?_
    refine zA_valI (w t 7) rfl ?_
    refine zA_icmp_lt (tgt := 25) dX11_askLetter_12 (by decide) (by first | assumption | exact hr _ _ | exact inR_mk (by omega) (by omega)) (by first | assumption | exact hr _ _ | exact inR_mk (by omega) (by omega)) (fun c12 => ?_) (fun c12 => ?_)
    · skip
      refine zA_vret dX11_askLetter_25 rfl ?_
      exact ⟨rfl, by omega, rfl, rfl⟩
    · skip
      refine zA_throw (sa := 1104) (zNSE_n dX11_askLetter_15 dX11_askLetter_18 ⟨dX11_askLetter_19, dX11_askLetter_21, dX11_askLetter_24⟩) (List.mem_of_getElem? (i := 4) rfl) rfl rfl (Nat.le_of_ble_eq_true rfl) (by decide) ?_
      exact ⟨Or.inl ⟨rfl, by omega⟩, rfl, rfl⟩

set_option maxRecDepth 100000 in
set_option maxHeartbeats 4000000 in
theorem s_askWhat {l : Launch} {t dr tx : Nat} {w : zW} {c n : Int} (hc : inR c) (hn : inR n) : zSp l mX11_askWhat false 1 1 6 [zI c, zI n] (ZZ t dr tx) w (zRa (0 ≤ c ∧ c < n) (ZZ t dr tx) w) (zXp (¬ (0 ≤ c ∧ c < n)) (False) (ZZ t dr tx) w) := by
  refine zA_intro ⟨plainFor_of_name (by decide +kernel), Or.inl (by decide +kernel)⟩ rfl (Nat.le_of_ble_eq_true rfl) ?_
  refine zA_range (fun hr => ?_)
  show zA l mX11_askWhat false 1 1 6 (zRa (0 ≤ c ∧ c < n) (ZZ t dr tx) w) (zXp (¬ (0 ≤ c ∧ c < n)) (False) (ZZ t dr tx) w) 0 [zI c, zI n] [] (ZZ t dr tx) w
  refine zA_iload_n dX11_askWhat_0 rfl ?_
  refine zA_if_lt (tgt := 9) dX11_askWhat_1 (by decide) (by first | assumption | exact hr _ _ | exact inR_mk (by omega) (by omega)) (fun c1 => ?_) (fun c1 => ?_)
  · skip
    refine zA_throw (sa := 1105) (zNSE_n dX11_askWhat_9 dX11_askWhat_12 ⟨dX11_askWhat_13, dX11_askWhat_15, dX11_askWhat_18⟩) (List.mem_of_getElem? (i := 5) rfl) rfl rfl (Nat.le_of_ble_eq_true rfl) (by decide) ?_
    exact ⟨Or.inl ⟨rfl, by omega⟩, rfl, rfl⟩
  · skip
    refine zA_iload_n dX11_askWhat_4 rfl ?_
    refine zA_iload_n dX11_askWhat_5 rfl ?_
    refine zA_icmp_lt (tgt := 19) dX11_askWhat_6 (by decide) (by first | assumption | exact hr _ _ | exact inR_mk (by omega) (by omega)) (by first | assumption | exact hr _ _ | exact inR_mk (by omega) (by omega)) (fun c6 => ?_) (fun c6 => ?_)
    · skip
      refine zA_vret dX11_askWhat_19 rfl ?_
      exact ⟨rfl, by omega, rfl, rfl⟩
    · skip
      refine zA_throw (sa := 1105) (zNSE_n dX11_askWhat_9 dX11_askWhat_12 ⟨dX11_askWhat_13, dX11_askWhat_15, dX11_askWhat_18⟩) (List.mem_of_getElem? (i := 5) rfl) rfl rfl (Nat.le_of_ble_eq_true rfl) (by decide) ?_
      exact ⟨Or.inl ⟨rfl, by omega⟩, rfl, rfl⟩

set_option maxRecDepth 100000 in
set_option maxHeartbeats 4000000 in
theorem s_askOwner {l : Launch} {t dr tx : Nat} {w : zW} {c : Int} (hc : inR c) : zSp l mX11_askOwner false 1 1 6 [zI c] (ZZ t dr tx) w (zRa (0 ≤ c ∧ c < 6) (ZZ t dr tx) w) (zXp (¬ (0 ≤ c ∧ c < 6)) (False) (ZZ t dr tx) w) := by
  refine zA_intro ⟨plainFor_of_name (by decide +kernel), Or.inl (by decide +kernel)⟩ rfl (Nat.le_of_ble_eq_true rfl) ?_
  refine zA_range (fun hr => ?_)
  show zA l mX11_askOwner false 1 1 6 (zRa (0 ≤ c ∧ c < 6) (ZZ t dr tx) w) (zXp (¬ (0 ≤ c ∧ c < 6)) (False) (ZZ t dr tx) w) 0 [zI c] [] (ZZ t dr tx) w
  refine zA_iload_n dX11_askOwner_0 rfl ?_
  refine zA_if_lt (tgt := 10) dX11_askOwner_1 (by decide) (by first | assumption | exact hr _ _ | exact inR_mk (by omega) (by omega)) (fun c1 => ?_) (fun c1 => ?_)
  · skip
    refine zA_throw (sa := 1106) (zNSE_n dX11_askOwner_10 dX11_askOwner_13 ⟨dX11_askOwner_14, dX11_askOwner_16, dX11_askOwner_19⟩) (List.mem_of_getElem? (i := 6) rfl) rfl rfl (Nat.le_of_ble_eq_true rfl) (by decide) ?_
    exact ⟨Or.inl ⟨rfl, by omega⟩, rfl, rfl⟩
  · skip
    refine zA_iload_n dX11_askOwner_4 rfl ?_
    refine zA_bipush dX11_askOwner_5 rfl ?_
    refine zA_icmp_lt (tgt := 20) dX11_askOwner_7 (by decide) (by first | assumption | exact hr _ _ | exact inR_mk (by omega) (by omega)) ⟨by decide, by decide⟩ (fun c7 => ?_) (fun c7 => ?_)
    · skip
      refine zA_vret dX11_askOwner_20 rfl ?_
      exact ⟨rfl, by omega, rfl, rfl⟩
    · skip
      refine zA_throw (sa := 1106) (zNSE_n dX11_askOwner_10 dX11_askOwner_13 ⟨dX11_askOwner_14, dX11_askOwner_16, dX11_askOwner_19⟩) (List.mem_of_getElem? (i := 6) rfl) rfl rfl (Nat.le_of_ble_eq_true rfl) (by decide) ?_
      exact ⟨Or.inl ⟨rfl, by omega⟩, rfl, rfl⟩

set_option maxRecDepth 100000 in
set_option maxHeartbeats 4000000 in
theorem s_askCentre {l : Launch} {t dr tx : Nat} {w : zW} {x y : Int} (hx : inR x) (hy : inR y) : zSp l mX11_askCentre false 2 1 6 [zI x, zI y] (ZZ t dr tx) w (zRa ((-95 ≤ x ∧ x ≤ 95) ∧ (-95 ≤ y ∧ y ≤ 95)) (ZZ t dr tx) w) (zXp (False) (¬ ((-95 ≤ x ∧ x ≤ 95) ∧ (-95 ≤ y ∧ y ≤ 95))) (ZZ t dr tx) w) := by
  refine zA_intro ⟨plainFor_of_name (by decide +kernel), Or.inl (by decide +kernel)⟩ rfl (Nat.le_of_ble_eq_true rfl) ?_
  refine zA_range (fun hr => ?_)
  show zA l mX11_askCentre false 2 1 6 (zRa ((-95 ≤ x ∧ x ≤ 95) ∧ (-95 ≤ y ∧ y ≤ 95)) (ZZ t dr tx) w) (zXp (False) (¬ ((-95 ≤ x ∧ x ≤ 95) ∧ (-95 ≤ y ∧ y ≤ 95))) (ZZ t dr tx) w) 0 [zI x, zI y] [] (ZZ t dr tx) w
  refine zA_bipush dX11_askCentre_0 rfl ?_
  refine zA_iload_n dX11_askCentre_2 rfl ?_
  refine zA_bipush dX11_askCentre_3 rfl ?_
  refine zA_cS (st := []) dX11_askCentre_5 sX11_between kX11_213 (s_between (w := w) (a := (-95)) (b := x) (e := 95) ⟨by decide, by decide⟩ (by first | assumption | exact hr _ _ | exact inR_mk (by omega) (by omega)) ⟨by decide, by decide⟩) (by decide) rfl rfl (Nat.le_of_ble_eq_true rfl) (zRt_el ?_)
  show zA l mX11_askCentre false 2 1 6 (zRa ((-95 ≤ x ∧ x ≤ 95) ∧ (-95 ≤ y ∧ y ≤ 95)) (ZZ t dr tx) w) (zXp (False) (¬ ((-95 ≤ x ∧ x ≤ 95) ∧ (-95 ≤ y ∧ y ≤ 95))) (ZZ t dr tx) w) 8 [zI x, zI y] [zI (if (-95) ≤ x ∧ x ≤ 95 then 1 else 0)] (ZZ t dr tx) w
  refine zA_if_eq (tgt := 22) dX11_askCentre_8 (by decide) (inR_ite _) (fun c8 => ?_) (fun c8 => ?_)
  · skip
    replace c8 := zite_eq c8
    refine zA_throw (sa := 1115) (zIAE_w dX11_askCentre_22 dX11_askCentre_25 ⟨dX11_askCentre_26, dX11_askCentre_29, dX11_askCentre_32⟩) (List.mem_of_getElem? (i := 15) rfl) rfl rfl (Nat.le_of_ble_eq_true rfl) (by decide) ?_
    exact ⟨Or.inr ⟨rfl, by omega⟩, rfl, rfl⟩
  · skip
    replace c8 := zite_ne c8
    refine zA_bipush dX11_askCentre_11 rfl ?_
    refine zA_iload_n dX11_askCentre_13 rfl ?_
    refine zA_bipush dX11_askCentre_14 rfl ?_
    refine zA_cS (st := []) dX11_askCentre_16 sX11_between kX11_213 (s_between (w := w) (a := (-95)) (b := y) (e := 95) ⟨by decide, by decide⟩ (by first | assumption | exact hr _ _ | exact inR_mk (by omega) (by omega)) ⟨by decide, by decide⟩) (by decide) rfl rfl (Nat.le_of_ble_eq_true rfl) (zRt_el ?_)
    show zA l mX11_askCentre false 2 1 6 (zRa ((-95 ≤ x ∧ x ≤ 95) ∧ (-95 ≤ y ∧ y ≤ 95)) (ZZ t dr tx) w) (zXp (False) (¬ ((-95 ≤ x ∧ x ≤ 95) ∧ (-95 ≤ y ∧ y ≤ 95))) (ZZ t dr tx) w) 19 [zI x, zI y] [zI (if (-95) ≤ y ∧ y ≤ 95 then 1 else 0)] (ZZ t dr tx) w
    refine zA_if_ne (tgt := 33) dX11_askCentre_19 (by decide) (inR_ite _) (fun c19 => ?_) (fun c19 => ?_)
    · skip
      replace c19 := zite_ne c19
      refine zA_vret dX11_askCentre_33 rfl ?_
      exact ⟨rfl, by omega, rfl, rfl⟩
    · skip
      replace c19 := zite_eq c19
      refine zA_throw (sa := 1115) (zIAE_w dX11_askCentre_22 dX11_askCentre_25 ⟨dX11_askCentre_26, dX11_askCentre_29, dX11_askCentre_32⟩) (List.mem_of_getElem? (i := 15) rfl) rfl rfl (Nat.le_of_ble_eq_true rfl) (by decide) ?_
      exact ⟨Or.inr ⟨rfl, by omega⟩, rfl, rfl⟩

set_option maxRecDepth 100000 in
set_option maxHeartbeats 4000000 in
theorem s_askYearAndWind {l : Launch} {t dr tx : Nat} {w : zW} {y v : Int} (hy : inR y) (hv : inR v) : zSp l mX11_askYearAndWind false 2 1 6 [zI y, zI v] (ZZ t dr tx) w (zRa ((0 ≤ y ∧ y ≤ 500) ∧ (0 ≤ v ∧ v ≤ 13)) (ZZ t dr tx) w) (zXp (False) (¬ ((0 ≤ y ∧ y ≤ 500) ∧ (0 ≤ v ∧ v ≤ 13))) (ZZ t dr tx) w) := by
  refine zA_intro ⟨plainFor_of_name (by decide +kernel), Or.inl (by decide +kernel)⟩ rfl (Nat.le_of_ble_eq_true rfl) ?_
  refine zA_range (fun hr => ?_)
  show zA l mX11_askYearAndWind false 2 1 6 (zRa ((0 ≤ y ∧ y ≤ 500) ∧ (0 ≤ v ∧ v ≤ 13)) (ZZ t dr tx) w) (zXp (False) (¬ ((0 ≤ y ∧ y ≤ 500) ∧ (0 ≤ v ∧ v ≤ 13))) (ZZ t dr tx) w) 0 [zI y, zI v] [] (ZZ t dr tx) w
  refine zA_iconst dX11_askYearAndWind_0 ?_
  refine zA_iload_n dX11_askYearAndWind_1 rfl ?_
  refine zA_sipush dX11_askYearAndWind_2 rfl ?_
  refine zA_cS (st := []) dX11_askYearAndWind_5 sX11_between kX11_213 (s_between (w := w) (a := 0) (b := y) (e := 500) ⟨by decide, by decide⟩ (by first | assumption | exact hr _ _ | exact inR_mk (by omega) (by omega)) ⟨by decide, by decide⟩) (by decide) rfl rfl (Nat.le_of_ble_eq_true rfl) (zRt_el ?_)
  show zA l mX11_askYearAndWind false 2 1 6 (zRa ((0 ≤ y ∧ y ≤ 500) ∧ (0 ≤ v ∧ v ≤ 13)) (ZZ t dr tx) w) (zXp (False) (¬ ((0 ≤ y ∧ y ≤ 500) ∧ (0 ≤ v ∧ v ≤ 13))) (ZZ t dr tx) w) 8 [zI y, zI v] [zI (if 0 ≤ y ∧ y ≤ 500 then 1 else 0)] (ZZ t dr tx) w
  refine zA_if_eq (tgt := 21) dX11_askYearAndWind_8 (by decide) (inR_ite _) (fun c8 => ?_) (fun c8 => ?_)
  · skip
    replace c8 := zite_eq c8
    refine zA_throw (sa := 1119) (zIAE_w dX11_askYearAndWind_21 dX11_askYearAndWind_24 ⟨dX11_askYearAndWind_25, dX11_askYearAndWind_28, dX11_askYearAndWind_31⟩) (List.mem_of_getElem? (i := 19) rfl) rfl rfl (Nat.le_of_ble_eq_true rfl) (by decide) ?_
    exact ⟨Or.inr ⟨rfl, by omega⟩, rfl, rfl⟩
  · skip
    replace c8 := zite_ne c8
    refine zA_iconst dX11_askYearAndWind_11 ?_
    refine zA_iload_n dX11_askYearAndWind_12 rfl ?_
    refine zA_bipush dX11_askYearAndWind_13 rfl ?_
    refine zA_cS (st := []) dX11_askYearAndWind_15 sX11_between kX11_213 (s_between (w := w) (a := 0) (b := v) (e := 13) ⟨by decide, by decide⟩ (by first | assumption | exact hr _ _ | exact inR_mk (by omega) (by omega)) ⟨by decide, by decide⟩) (by decide) rfl rfl (Nat.le_of_ble_eq_true rfl) (zRt_el ?_)
    show zA l mX11_askYearAndWind false 2 1 6 (zRa ((0 ≤ y ∧ y ≤ 500) ∧ (0 ≤ v ∧ v ≤ 13)) (ZZ t dr tx) w) (zXp (False) (¬ ((0 ≤ y ∧ y ≤ 500) ∧ (0 ≤ v ∧ v ≤ 13))) (ZZ t dr tx) w) 18 [zI y, zI v] [zI (if 0 ≤ v ∧ v ≤ 13 then 1 else 0)] (ZZ t dr tx) w
    refine zA_if_ne (tgt := 32) dX11_askYearAndWind_18 (by decide) (inR_ite _) (fun c18 => ?_) (fun c18 => ?_)
    · skip
      replace c18 := zite_ne c18
      refine zA_vret dX11_askYearAndWind_32 rfl ?_
      exact ⟨rfl, by omega, rfl, rfl⟩
    · skip
      replace c18 := zite_eq c18
      refine zA_throw (sa := 1119) (zIAE_w dX11_askYearAndWind_21 dX11_askYearAndWind_24 ⟨dX11_askYearAndWind_25, dX11_askYearAndWind_28, dX11_askYearAndWind_31⟩) (List.mem_of_getElem? (i := 19) rfl) rfl rfl (Nat.le_of_ble_eq_true rfl) (by decide) ?_
      exact ⟨Or.inr ⟨rfl, by omega⟩, rfl, rfl⟩

set_option maxRecDepth 100000 in
set_option maxHeartbeats 4000000 in
theorem s_askLadder {l : Launch} {t dr tx : Nat} {w : zW} {c : Int} (hc : inR c) : zSp l mX11_askLadder false 2 1 6 [zI c] (ZZ t dr tx) w (zRa (3 ≤ c ∧ c ≤ 99) (ZZ t dr tx) w) (zXp (False) (¬ (3 ≤ c ∧ c ≤ 99)) (ZZ t dr tx) w) := by
  refine zA_intro ⟨plainFor_of_name (by decide +kernel), Or.inl (by decide +kernel)⟩ rfl (Nat.le_of_ble_eq_true rfl) ?_
  refine zA_range (fun hr => ?_)
  show zA l mX11_askLadder false 2 1 6 (zRa (3 ≤ c ∧ c ≤ 99) (ZZ t dr tx) w) (zXp (False) (¬ (3 ≤ c ∧ c ≤ 99)) (ZZ t dr tx) w) 0 [zI c] [] (ZZ t dr tx) w
  refine zA_iconst dX11_askLadder_0 ?_
  refine zA_iload_n dX11_askLadder_1 rfl ?_
  refine zA_bipush dX11_askLadder_2 rfl ?_
  refine zA_cS (st := []) dX11_askLadder_4 sX11_between kX11_213 (s_between (w := w) (a := 3) (b := c) (e := 99) ⟨by decide, by decide⟩ (by first | assumption | exact hr _ _ | exact inR_mk (by omega) (by omega)) ⟨by decide, by decide⟩) (by decide) rfl rfl (Nat.le_of_ble_eq_true rfl) (zRt_el ?_)
  show zA l mX11_askLadder false 2 1 6 (zRa (3 ≤ c ∧ c ≤ 99) (ZZ t dr tx) w) (zXp (False) (¬ (3 ≤ c ∧ c ≤ 99)) (ZZ t dr tx) w) 7 [zI c] [zI (if 3 ≤ c ∧ c ≤ 99 then 1 else 0)] (ZZ t dr tx) w
  refine zA_if_ne (tgt := 21) dX11_askLadder_7 (by decide) (inR_ite _) (fun c7 => ?_) (fun c7 => ?_)
  · skip
    replace c7 := zite_ne c7
    refine zA_vret dX11_askLadder_21 rfl ?_
    exact ⟨rfl, by omega, rfl, rfl⟩
  · skip
    replace c7 := zite_eq c7
    refine zA_throw (sa := 1121) (zIAE_w dX11_askLadder_10 dX11_askLadder_13 ⟨dX11_askLadder_14, dX11_askLadder_17, dX11_askLadder_20⟩) (List.mem_of_getElem? (i := 21) rfl) rfl rfl (Nat.le_of_ble_eq_true rfl) (by decide) ?_
    exact ⟨Or.inr ⟨rfl, by omega⟩, rfl, rfl⟩

