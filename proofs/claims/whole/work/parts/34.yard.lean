/-! the yard: frames, what is told -/
def frm (A : List Nat) (w w' : zW) : Prop := ∀ c i, c ∉ A → w' c i = w c i
theorem frm_rfl {A : List Nat} {w : zW} : frm A w w := fun _ _ _ => rfl
theorem frm_up {A : List Nat} {w w' : zW} {c0 : Nat} {i v : Int} (h : frm A w w') (hm : c0 ∈ A) : frm A w (up w' c0 i v) := fun c j hc => by
  rw [up_cell _ _ _ _ (fun e => hc (by rw [e]; exact hm))]; exact h c j hc
theorem frm_tr {A B C : List Nat} {w w' w'' : zW} (h : frm A w w') (h2 : frm B w' w'') (hA : ∀ c, c ∈ A → c ∈ C) (hB : ∀ c, c ∈ B → c ∈ C) : frm C w w'' := fun c j hc => (h2 c j (fun h => hc (hB c h))).trans (h c j (fun h => hc (hA c h)))
theorem frm_mono {A C : List Nat} {w w' : zW} (h : frm A w w') (hA : ∀ c, c ∈ A → c ∈ C) : frm C w w' := fun c j hc => h c j (fun h => hc (hA c h))
theorem only_frm {c0 : Nat} {w w' : zW} (h : only c0 w w') : frm [c0] w w' := fun c j hc => h c j (fun e => hc (by rw [e]; exact List.mem_singleton_self _))
/-- a letter's numbers -/
def okLet (w : zW) (y : Nat) (n l : Int) : Prop := (0 ≤ w (y + 4) (l * 6) ∧ w (y + 4) (l * 6) < n) ∧ (1 ≤ w (y + 4) (l * 6 + 1) ∧ w (y + 4) (l * 6 + 1) ≤ 9) ∧ (0 ≤ w (y + 4) (l * 6 + 2) ∧ w (y + 4) (l * 6 + 2) ≤ 12) ∧ (0 ≤ w (y + 4) (l * 6 + 3) ∧ w (y + 4) (l * 6 + 3) ≤ w (y + 4) (l * 6 + 4)) ∧ w (y + 4) (l * 6 + 4) ≤ 29 ∧ (0 ≤ w (y + 4) (l * 6 + 5) ∧ w (y + 4) (l * 6 + 5) ≤ 9999)
def okYard (w : zW) (y : Nat) : Prop := (0 ≤ w y 5 ∧ w y 5 ≤ 12) ∧ (0 ≤ w y 6 ∧ w y 6 ≤ 30) ∧ (0 ≤ w y 7 ∧ w y 7 ≤ 8) ∧ (0 ≤ w y 8 ∧ w y 8 ≤ 12) ∧
  (∀ c : Int, 0 ≤ c → c < w y 5 → 1 ≤ w (y + 1) c ∧ w (y + 1) c ≤ 200) ∧ (∀ k : Int, 0 ≤ k → k < 144 → 0 ≤ w (y + 2) k ∧ w (y + 2) k ≤ 9) ∧ (∀ d : Int, 0 ≤ d → d < 30 → 0 ≤ w (y + 3) d ∧ w (y + 3) d ≤ 13) ∧
  (∀ l : Int, 0 ≤ l → l < w y 7 → okLet w y (w y 5) l) ∧ (∀ c : Int, 0 ≤ c → c < 12 → 0 ≤ w (y + 5) c ∧ w (y + 5) c < 1073741824)
def yTrav (w : zW) (y : Nat) (a b : Int) : Int := if a = b then 0 else w (y + 2) (a * 12 + b)
/-- a day on which a letter's men can work -/
def yGood (w : zW) (y : Nat) (l d : Int) : Prop := w (y + 3) d ≤ w (y + 4) (l * 6 + 2) ∧ tb (w (y + 5) (w (y + 4) (l * 6))) d = false
def yCan (w : zW) (y : Nat) (l d : Int) : Prop := w (y + 4) (l * 6 + 3) ≤ d ∧ d + w (y + 4) (l * 6 + 1) - 1 ≤ w (y + 4) (l * 6 + 4) ∧ ∀ e, d ≤ e → e < d + w (y + 4) (l * 6 + 1) → yGood w y l e
/-- the first day from d0 on with P, or none -/
def isFst (P : Int → Prop) (d0 r : Int) : Prop := (r = -1 ∧ ∀ d, d0 ≤ d → ¬ P d) ∨ (d0 ≤ r ∧ P r ∧ ∀ d, d0 ≤ d → d < r → ¬ P d)
theorem isFst_u {P : Int → Prop} {d0 r r' : Int} (h : isFst P d0 r) (h' : isFst P d0 r') : r = r' := by
  rcases h with ⟨h1, h2⟩ | ⟨h1, h2, h3⟩ <;> rcases h' with ⟨k1, k2⟩ | ⟨k1, k2, k3⟩
  · omega
  · exact absurd k2 (h2 r' k1)
  · exact absurd h2 (k2 r h1)
  · rcases Int.lt_trichotomy r r' with q | q | q
    · exact absurd h2 (k3 r h1 q)
    · exact q
    · exact absurd k2 (h3 r' k1 q)
theorem isFst_c {P P' : Int → Prop} {d0 r : Int} (hp : ∀ d, P d ↔ P' d) (h : isFst P d0 r) : isFst P' d0 r := by
  have : P = P' := funext fun d => propext (hp d)
  rw [← this]; exact h
set_option maxRecDepth 100000 in
set_option maxHeartbeats 4000000 in
theorem s_travel {l : Launch} {t dr tx : Nat} {w : zW} {gr : Bool} {y : Nat} (hy : y = 4 ∨ y = 10) {a b : Int} (a0 : 0 ≤ a) (a1 : a < 12) (b0 : 0 ≤ b) (b1 : b < 12) : zSp l mX10_travel gr 1 0 0 [zR y, zI a, zI b] (ZZ t dr tx) w (zRt (some (zI (yTrav w y a b))) (ZZ t dr tx) w) zNo := by
  refine zA_intro ⟨plainFor_of_name (by decide +kernel), Or.inl (by decide +kernel)⟩ rfl (Nat.le_of_ble_eq_true rfl) ?_
  refine zA_range (fun hr => ?_)
  show zA l mX10_travel gr 1 0 0 (zRt (some (zI (yTrav w y a b))) (ZZ t dr tx) w) zNo 0 [zR y, zI a, zI b] [] (ZZ t dr tx) w
  refine zA_iload_n dX10_travel_0 rfl ?_
  refine zA_iload_n dX10_travel_1 rfl ?_
  refine zA_icmp_ne (tgt := 9) dX10_travel_2 (by decide) (by first | assumption | exact hr _ _ | exact inR_mk (by omega) (by omega)) (by first | assumption | exact hr _ _ | exact inR_mk (by omega) (by omega)) (fun c2 => ?_) (fun c2 => ?_)
  · skip
    refine zA_aload_n dX10_travel_9 rfl ?_
    refine zA_getR (n := (y + 2)) dX10_travel_10 fX10_15 (cY0 hy) rfl ?_
    refine zA_iload_n dX10_travel_13 rfl ?_
    refine zA_bipush dX10_travel_14 rfl ?_
    refine zA_imul dX10_travel_16 ?_
    refine zA_iload_n dX10_travel_17 rfl ?_
    refine zA_iadd dX10_travel_18 ?_
    refine zA_iaload dX10_travel_19 (cY2 hy) (by first | assumption | omega) (by first | assumption | omega) (by decide) ?_
    refine zA_iret dX10_travel_20 rfl ?_
    exact zRt_i (by unfold yTrav; split <;> first | rfl | omega)
  · skip
    refine zA_iconst dX10_travel_5 ?_
    refine zA_goto (tgt := 20) dX10_travel_6 (by decide) ?_
    refine zA_iret dX10_travel_20 rfl ?_
    exact zRt_i (by unfold yTrav; split <;> first | rfl | omega)

set_option maxRecDepth 100000 in
set_option maxHeartbeats 4000000 in
theorem s_fact {l : Launch} {t dr tx : Nat} {w : zW} {gr : Bool} {y : Nat} (hy : y = 4 ∨ y = 10) {a k : Int} (a0 : 0 ≤ a) (a1 : a < 8) (k0 : 0 ≤ k) (k1 : k < 6) : zSp l mX10_fact gr 1 0 0 [zR y, zI a, zI k] (ZZ t dr tx) w (zRt (some (zI (w (y + 4) (a * 6 + k)))) (ZZ t dr tx) w) zNo := by
  refine zA_intro ⟨plainFor_of_name (by decide +kernel), Or.inl (by decide +kernel)⟩ rfl (Nat.le_of_ble_eq_true rfl) ?_
  refine zA_range (fun hr => ?_)
  show zA l mX10_fact gr 1 0 0 (zRt (some (zI (w (y + 4) (a * 6 + k)))) (ZZ t dr tx) w) zNo 0 [zR y, zI a, zI k] [] (ZZ t dr tx) w
  refine zA_aload_n dX10_fact_0 rfl ?_
  refine zA_getR (n := (y + 4)) dX10_fact_1 fX10_21 (cY0 hy) rfl ?_
  refine zA_iload_n dX10_fact_4 rfl ?_
  refine zA_bipush dX10_fact_5 rfl ?_
  refine zA_imul dX10_fact_7 ?_
  refine zA_iload_n dX10_fact_8 rfl ?_
  refine zA_iadd dX10_fact_9 ?_
  refine zA_iaload dX10_fact_10 (cY4 hy) (by first | assumption | omega) (by first | assumption | omega) (by decide) ?_
  refine zA_iret dX10_fact_11 rfl ?_
  exact zRt_i rfl

set_option maxRecDepth 100000 in
set_option maxHeartbeats 4000000 in
theorem s_setFact {l : Launch} {t dr tx : Nat} {w : zW} {gr : Bool} {y : Nat} (hy : y = 4 ∨ y = 10) {a k v : Int} (a0 : 0 ≤ a) (a1 : a < 8) (k0 : 0 ≤ k) (k1 : k < 6) (hv : inR v) : zSp l mX10_setFact gr 1 0 0 [zR y, zI a, zI k, zI v] (ZZ t dr tx) w (zRt none (ZZ t dr tx) (up w (y + 4) (a * 6 + k) v)) zNo := by
  refine zA_intro ⟨plainFor_of_name (by decide +kernel), Or.inl (by decide +kernel)⟩ rfl (Nat.le_of_ble_eq_true rfl) ?_
  refine zA_range (fun hr => ?_)
  show zA l mX10_setFact gr 1 0 0 (zRt none (ZZ t dr tx) (up w (y + 4) (a * 6 + k) v)) zNo 0 [zR y, zI a, zI k, zI v] [] (ZZ t dr tx) w
  refine zA_aload_n dX10_setFact_0 rfl ?_
  refine zA_getR (n := (y + 4)) dX10_setFact_1 fX10_21 (cY0 hy) rfl ?_
  refine zA_iload_n dX10_setFact_4 rfl ?_
  refine zA_bipush dX10_setFact_5 rfl ?_
  refine zA_imul dX10_setFact_7 ?_
  refine zA_iload_n dX10_setFact_8 rfl ?_
  refine zA_iadd dX10_setFact_9 ?_
  refine zA_iload_n dX10_setFact_10 rfl ?_
  refine zA_iastore dX10_setFact_11 (by first | assumption | exact hr _ _ | exact inR_mk (by omega) (by omega)) (cY4 hy) (by first | assumption | omega) (by first | assumption | omega) (by decide) ?_
  refine zA_namew (fun w_1 hw_1 => ?_)
  refine zA_range (fun hr => ?_)
  refine zA_vret dX10_setFact_12 rfl ?_
  rw [hw_1]
  exact ⟨rfl, rfl, rfl⟩

set_option maxRecDepth 100000 in
set_option maxHeartbeats 4000000 in
theorem s_setTravel {l : Launch} {t dr tx : Nat} {w : zW} {gr : Bool} {y : Nat} (hy : y = 4 ∨ y = 10) {a b v : Int} (a0 : 0 ≤ a) (a1 : a < 12) (b0 : 0 ≤ b) (b1 : b < 12) (hv : inR v) : zSp l mX10_setTravel gr 1 0 0 [zR y, zI a, zI b, zI v] (ZZ t dr tx) w (zRt none (ZZ t dr tx) (up (up w (y + 2) (a * 12 + b) v) (y + 2) (b * 12 + a) v)) zNo := by
  refine zA_intro ⟨plainFor_of_name (by decide +kernel), Or.inl (by decide +kernel)⟩ rfl (Nat.le_of_ble_eq_true rfl) ?_
  refine zA_range (fun hr => ?_)
  show zA l mX10_setTravel gr 1 0 0 (zRt none (ZZ t dr tx) (up (up w (y + 2) (a * 12 + b) v) (y + 2) (b * 12 + a) v)) zNo 0 [zR y, zI a, zI b, zI v] [] (ZZ t dr tx) w
  refine zA_aload_n dX10_setTravel_0 rfl ?_
  refine zA_getR (n := (y + 2)) dX10_setTravel_1 fX10_15 (cY0 hy) rfl ?_
  refine zA_iload_n dX10_setTravel_4 rfl ?_
  refine zA_bipush dX10_setTravel_5 rfl ?_
  refine zA_imul dX10_setTravel_7 ?_
  refine zA_iload_n dX10_setTravel_8 rfl ?_
  refine zA_iadd dX10_setTravel_9 ?_
  refine zA_iload_n dX10_setTravel_10 rfl ?_
  refine zA_iastore dX10_setTravel_11 (by first | assumption | exact hr _ _ | exact inR_mk (by omega) (by omega)) (cY2 hy) (by first | assumption | omega) (by first | assumption | omega) (by decide) ?_
  refine zA_namew (fun w_1 hw_1 => ?_)
  refine zA_range (fun hr => ?_)
  refine zA_aload_n dX10_setTravel_12 rfl ?_
  refine zA_getR (n := (y + 2)) dX10_setTravel_13 fX10_15 (cY0 hy) rfl ?_
  refine zA_iload_n dX10_setTravel_16 rfl ?_
  refine zA_bipush dX10_setTravel_17 rfl ?_
  refine zA_imul dX10_setTravel_19 ?_
  refine zA_iload_n dX10_setTravel_20 rfl ?_
  refine zA_iadd dX10_setTravel_21 ?_
  refine zA_iload_n dX10_setTravel_22 rfl ?_
  refine zA_iastore dX10_setTravel_23 (by first | assumption | exact hr _ _ | exact inR_mk (by omega) (by omega)) (cY2 hy) (by first | assumption | omega) (by first | assumption | omega) (by decide) ?_
  refine zA_namew (fun w_2 hw_2 => ?_)
  refine zA_range (fun hr => ?_)
  refine zA_vret dX10_setTravel_24 rfl ?_
  rw [hw_2, hw_1]
  exact ⟨rfl, rfl, rfl⟩

set_option maxRecDepth 100000 in
set_option maxHeartbeats 4000000 in
theorem s_hasNest {l : Launch} {t dr tx : Nat} {w : zW} {gr : Bool} {y : Nat} (hy : y = 4 ∨ y = 10) {a d : Int} (a0 : 0 ≤ a) (a1 : a < 12) (d0 : 0 ≤ d) (d1 : d < 31) (hb0 : 0 ≤ w (y + 5) a) (hb1 : w (y + 5) a < 1073741824) : zSp l mX10_hasNest gr 1 0 0 [zR y, zI a, zI d] (ZZ t dr tx) w (zRt (some (zI (if tb (w (y + 5) a) d = true then 1 else 0))) (ZZ t dr tx) w) zNo := by
  refine zA_intro ⟨plainFor_of_name (by decide +kernel), Or.inl (by decide +kernel)⟩ rfl (Nat.le_of_ble_eq_true rfl) ?_
  refine zA_range (fun hr => ?_)
  show zA l mX10_hasNest gr 1 0 0 (zRt (some (zI (if tb (w (y + 5) a) d = true then 1 else 0))) (ZZ t dr tx) w) zNo 0 [zR y, zI a, zI d] [] (ZZ t dr tx) w
  refine zA_aload_n dX10_hasNest_0 rfl ?_
  refine zA_getR (n := (y + 5)) dX10_hasNest_1 fX10_24 (cY0 hy) rfl ?_
  refine zA_iload_n dX10_hasNest_4 rfl ?_
  refine zA_iaload dX10_hasNest_5 (cY5 hy) (by first | assumption | omega) (by first | assumption | omega) (by decide) ?_
  refine zA_iload_n dX10_hasNest_6 rfl ?_
  refine zA_ishr dX10_hasNest_7 ?_
  refine zA_iconst dX10_hasNest_8 ?_
  refine zA_iand dX10_hasNest_9 ?_
  rw [tb_get hb0 (by omega) d0 d1]
  refine zA_if_eq (tgt := 17) dX10_hasNest_10 (by decide) (by first | assumption | exact hr _ _ | exact inR_mk (by omega) (by omega)) (fun c10 => ?_) (fun c10 => ?_)
  · skip
    refine zA_iconst dX10_hasNest_17 ?_
    refine zA_zret dX10_hasNest_18 rfl (Or.inl rfl) ?_
    exact zRt_i (by revert c10; split <;> intro c10 <;> omega)
  · skip
    refine zA_iconst dX10_hasNest_13 ?_
    refine zA_goto (tgt := 18) dX10_hasNest_14 (by decide) ?_
    refine zA_zret dX10_hasNest_18 rfl (Or.inr rfl) ?_
    exact zRt_i (by revert c10; split <;> intro c10 <;> omega)

set_option maxRecDepth 100000 in
set_option maxHeartbeats 4000000 in
theorem s_firstDay {l : Launch} {t dr tx : Nat} {w : zW} {gr : Bool} {y : Nat} (hy : y = 4 ∨ y = 10) {a d : Int} (hY : okYard w y) (a0 : 0 ≤ a) (a1 : a < w y 7) (d0 : 0 ≤ d) (d1 : d < 1000000) : zSp l mX10_firstDay gr 2 0 0 [zR y, zI a, zI d] (ZZ t dr tx) w (zRp1 (isFst (yCan w y a) d) (ZZ t dr tx) w) zNo := by
  refine zA_intro ⟨plainFor_of_name (by decide +kernel), Or.inl (by decide +kernel)⟩ rfl (Nat.le_of_ble_eq_true rfl) ?_
  obtain ⟨⟨u1, u2⟩, -, ⟨u3, u4⟩, -, -, -, hwi, hle, hne⟩ := id hY
  obtain ⟨⟨q1, q2⟩, ⟨q3, q4⟩, ⟨q5, q6⟩, ⟨q7, q8⟩, q9, -⟩ := hle a a0 a1
  have hz : a * 6 = a * 6 + 0 := by omega
  rw [hz] at q1 q2
  have a1 : a < 8 := by omega
  refine zA_range (fun hr => ?_)
  show zA l mX10_firstDay gr 2 0 0 (zRp1 (isFst (yCan w y a) d) (ZZ t dr tx) w) zNo 0 [zR y, zI a, zI d, .null, .null, .null, .null, .null, .null] [] (ZZ t dr tx) w
  refine zA_aload_n dX10_firstDay_0 rfl ?_
  refine zA_iload_n dX10_firstDay_1 rfl ?_
  refine zA_iconst dX10_firstDay_2 ?_
  refine zA_cV (st := []) dX10_firstDay_3 vX10_fact kX10_49 (s_fact (w := w) (a := a) (k := 0) hy a0 a1 (by decide) (by decide)) (by decide) (cY0 hy) rfl rfl (Nat.le_of_ble_eq_true rfl) rfl (zRt_el ?_)
  show zA l mX10_firstDay gr 2 0 0 (zRp1 (isFst (yCan w y a) d) (ZZ t dr tx) w) zNo 6 [zR y, zI a, zI d, .null, .null, .null, .null, .null, .null] [zI (w (y + 4) (a * 6 + 0))] (ZZ t dr tx) w
  refine zA_istore_n (lo1 := [zR y, zI a, zI d, zI (w (y + 4) (a * 6 + 0)), .null, .null, .null, .null, .null]) dX10_firstDay_6 (by decide) rfl rfl ?_
  refine zA_aload_n dX10_firstDay_7 rfl ?_
  refine zA_iload_n dX10_firstDay_8 rfl ?_
  refine zA_iconst dX10_firstDay_9 ?_
  refine zA_cV (st := []) dX10_firstDay_10 vX10_fact kX10_49 (s_fact (w := w) (a := a) (k := 2) hy a0 a1 (by decide) (by decide)) (by decide) (cY0 hy) rfl rfl (Nat.le_of_ble_eq_true rfl) rfl (zRt_el ?_)
  show zA l mX10_firstDay gr 2 0 0 (zRp1 (isFst (yCan w y a) d) (ZZ t dr tx) w) zNo 13 [zR y, zI a, zI d, zI (w (y + 4) (a * 6 + 0)), .null, .null, .null, .null, .null] [zI (w (y + 4) (a * 6 + 2))] (ZZ t dr tx) w
  refine zA_istore (lo1 := [zR y, zI a, zI d, zI (w (y + 4) (a * 6 + 0)), zI (w (y + 4) (a * 6 + 2)), .null, .null, .null, .null]) dX10_firstDay_13 (by decide) rfl rfl ?_
  refine zA_aload_n dX10_firstDay_15 rfl ?_
  refine zA_iload_n dX10_firstDay_16 rfl ?_
  refine zA_iconst dX10_firstDay_17 ?_
  refine zA_cV (st := []) dX10_firstDay_18 vX10_fact kX10_49 (s_fact (w := w) (a := a) (k := 1) hy a0 a1 (by decide) (by decide)) (by decide) (cY0 hy) rfl rfl (Nat.le_of_ble_eq_true rfl) rfl (zRt_el ?_)
  show zA l mX10_firstDay gr 2 0 0 (zRp1 (isFst (yCan w y a) d) (ZZ t dr tx) w) zNo 21 [zR y, zI a, zI d, zI (w (y + 4) (a * 6 + 0)), zI (w (y + 4) (a * 6 + 2)), .null, .null, .null, .null] [zI (w (y + 4) (a * 6 + 1))] (ZZ t dr tx) w
  refine zA_istore (lo1 := [zR y, zI a, zI d, zI (w (y + 4) (a * 6 + 0)), zI (w (y + 4) (a * 6 + 2)), zI (w (y + 4) (a * 6 + 1)), .null, .null, .null]) dX10_firstDay_21 (by decide) rfl rfl ?_
  refine zA_aload_n dX10_firstDay_23 rfl ?_
  refine zA_iload_n dX10_firstDay_24 rfl ?_
  refine zA_iconst dX10_firstDay_25 ?_
  refine zA_cV (st := []) dX10_firstDay_26 vX10_fact kX10_49 (s_fact (w := w) (a := a) (k := 4) hy a0 a1 (by decide) (by decide)) (by decide) (cY0 hy) rfl rfl (Nat.le_of_ble_eq_true rfl) rfl (zRt_el ?_)
  show zA l mX10_firstDay gr 2 0 0 (zRp1 (isFst (yCan w y a) d) (ZZ t dr tx) w) zNo 29 [zR y, zI a, zI d, zI (w (y + 4) (a * 6 + 0)), zI (w (y + 4) (a * 6 + 2)), zI (w (y + 4) (a * 6 + 1)), .null, .null, .null] [zI (w (y + 4) (a * 6 + 4))] (ZZ t dr tx) w
  refine zA_istore (lo1 := [zR y, zI a, zI d, zI (w (y + 4) (a * 6 + 0)), zI (w (y + 4) (a * 6 + 2)), zI (w (y + 4) (a * 6 + 1)), zI (w (y + 4) (a * 6 + 4)), .null, .null]) dX10_firstDay_29 (by decide) rfl rfl ?_
  refine zA_iconst dX10_firstDay_31 ?_
  refine zA_istore (lo1 := [zR y, zI a, zI d, zI (w (y + 4) (a * 6 + 0)), zI (w (y + 4) (a * 6 + 2)), zI (w (y + 4) (a * 6 + 1)), zI (w (y + 4) (a * 6 + 4)), zI 0, .null]) dX10_firstDay_32 (by decide) rfl rfl ?_
  refine zA_iload_n dX10_firstDay_34 rfl ?_
  refine zA_aload_n dX10_firstDay_35 rfl ?_
  refine zA_iload_n dX10_firstDay_36 rfl ?_
  refine zA_iconst dX10_firstDay_37 ?_
  refine zA_cV (st := [zI d]) dX10_firstDay_38 vX10_fact kX10_49 (s_fact (w := w) (a := a) (k := 3) hy a0 a1 (by decide) (by decide)) (by decide) (cY0 hy) rfl rfl (Nat.le_of_ble_eq_true rfl) rfl (zRt_el ?_)
  show zA l mX10_firstDay gr 2 0 0 (zRp1 (isFst (yCan w y a) d) (ZZ t dr tx) w) zNo 41 [zR y, zI a, zI d, zI (w (y + 4) (a * 6 + 0)), zI (w (y + 4) (a * 6 + 2)), zI (w (y + 4) (a * 6 + 1)), zI (w (y + 4) (a * 6 + 4)), zI 0, .null] [zI (w (y + 4) (a * 6 + 3)), zI d] (ZZ t dr tx) w
  refine zA_mmax dX10_firstDay_41 kmX10_53 zw_max (by first | assumption | exact hr _ _ | exact inR_mk (by omega) (by omega)) (by first | assumption | exact hr _ _ | exact inR_mk (by omega) (by omega)) (Nat.le_of_ble_eq_true rfl) ?_
  refine zA_istore (lo1 := [zR y, zI a, zI d, zI (w (y + 4) (a * 6 + 0)), zI (w (y + 4) (a * 6 + 2)), zI (w (y + 4) (a * 6 + 1)), zI (w (y + 4) (a * 6 + 4)), zI 0, zI (max d (w (y + 4) (a * 6 + 3)))]) dX10_firstDay_44 (by decide) rfl rfl ?_
  have L46 : ∀ (z46 : Nat) (r : Int) (e : Int) (e0 : max d (w (y + 4) (a * 6 + 3)) ≤ e - r) (r0 : 0 ≤ r) (r1 : r < w (y + 4) (a * 6 + 1)) (hg : ∀ x, e - r ≤ x → x < e → yGood w y a x) (hb : e - r = max d (w (y + 4) (a * 6 + 3)) ∨ ¬ yGood w y a (e - r - 1)) (hp : ∀ x, max d (w (y + 4) (a * 6 + 3)) ≤ x → x + w (y + 4) (a * 6 + 1) ≤ e → ∃ z, x ≤ z ∧ z < x + w (y + 4) (a * 6 + 1) ∧ ¬ yGood w y a z) (e2 : e ≤ max d (w (y + 4) (a * 6 + 3)) + 40) (zm : (max d (w (y + 4) (a * 6 + 3)) + 41 - e).toNat < z46), zA l mX10_firstDay gr 2 0 0 (zRp1 (isFst (yCan w y a) d) (ZZ t dr tx) w) zNo 46 [zR y, zI a, zI d, zI (w (y + 4) (a * 6 + 0)), zI (w (y + 4) (a * 6 + 2)), zI (w (y + 4) (a * 6 + 1)), zI (w (y + 4) (a * 6 + 4)), zI r, zI e] [] (ZZ t dr tx) w := by
    intro z46
    induction z46 with
    | zero => intro r e e0 r0 r1 hg hb hp e2 zm; exact absurd zm (Nat.not_lt_zero _)
    | succ z46 ih46 =>
      intro r e e0 r0 r1 hg hb hp e2 zm
      refine zA_iload dX10_firstDay_46 rfl ?_
      refine zA_iload dX10_firstDay_48 rfl ?_
      refine zA_icmp_gt (tgt := 106) dX10_firstDay_50 (by decide) (by first | assumption | exact hr _ _ | exact inR_mk (by omega) (by omega)) (by first | assumption | exact hr _ _ | exact inR_mk (by omega) (by omega)) (fun c50 => ?_) (fun c50 => ?_)
      · skip
        refine zA_iconst dX10_firstDay_106 ?_
        refine zA_iret dX10_firstDay_107 rfl ?_
        refine ⟨⟨_, rfl, Or.inl ⟨rfl, fun x h1 h3 => ?_⟩⟩, rfl, rfl⟩
        obtain ⟨k1, k2, k3⟩ := h3
        obtain ⟨z', z1, z2, z3⟩ := hp x (by omega) (by omega)
        exact z3 (k3 z' z1 z2)
      · skip
        have hz0 : a * 6 + 0 = a * 6 := by omega
        have e9 : e ≤ 29 := by omega
        have L83 : ∀ (z : Int) (hz : (z = r + 1 ∧ yGood w y a e) ∨ (z = 0 ∧ ¬ yGood w y a e)), zA l mX10_firstDay gr 2 0 0 (zRp1 (isFst (yCan w y a) d) (ZZ t dr tx) w) zNo 83 [zR y, zI a, zI d, zI (w (y + 4) (a * 6 + 0)), zI (w (y + 4) (a * 6 + 2)), zI (w (y + 4) (a * 6 + 1)), zI (w (y + 4) (a * 6 + 4)), zI r, zI e] [zI z] (ZZ t dr tx) w := by
          intro z hz
          refine zA_istore (lo1 := [zR y, zI a, zI d, zI (w (y + 4) (a * 6 + 0)), zI (w (y + 4) (a * 6 + 2)), zI (w (y + 4) (a * 6 + 1)), zI (w (y + 4) (a * 6 + 4)), zI z, zI e]) dX10_firstDay_83 (by decide) rfl rfl ?_
          refine zA_iload dX10_firstDay_85 rfl ?_
          refine zA_iload dX10_firstDay_87 rfl ?_
          refine zA_icmp_ne (tgt := 100) dX10_firstDay_89 (by decide) (by first | assumption | exact hr _ _ | exact inR_mk (by omega) (by omega)) (by first | assumption | exact hr _ _ | exact inR_mk (by omega) (by omega)) (fun c89 => ?_) (fun c89 => ?_)
          · skip
            refine zA_iinc (lo1 := [zR y, zI a, zI d, zI (w (y + 4) (a * 6 + 0)), zI (w (y + 4) (a * 6 + 2)), zI (w (y + 4) (a * 6 + 1)), zI (w (y + 4) (a * 6 + 4)), zI z, zI (e + 1)]) dX10_firstDay_100 rfl (by decide) rfl rfl ?_
            refine zA_goto (tgt := 46) dX10_firstDay_103 (by decide) ?_
            exact ih46 z (e + 1) (by omega) (by omega) (by omega) (fun x h1 h2 => by
              rcases hz with ⟨z1, z2⟩ | ⟨z1, z2⟩
              · by_cases hx : x = e
                · rw [hx]; exact z2
                · exact hg x (by omega) (by omega)
              · omega) (by
              rcases hz with ⟨z1, z2⟩ | ⟨z1, z2⟩
              · rw [show e + 1 - z = e - r by omega]; exact hb
              · right; rw [show e + 1 - z - 1 = e by omega]; exact z2) (fun x h1 h2 => by
              by_cases hx : x + w (y + 4) (a * 6 + 1) ≤ e
              · exact hp x h1 hx
              · rcases hz with ⟨z1, z2⟩ | ⟨z1, z2⟩
                · rcases hb with hb | hb
                  · omega
                  · exact ⟨e - r - 1, by omega, by omega, hb⟩
                · exact ⟨e, by omega, by omega, z2⟩) (by omega) (by omega)
          · skip
            refine zA_iload dX10_firstDay_92 rfl ?_
            refine zA_iload dX10_firstDay_94 rfl ?_
            refine zA_isub dX10_firstDay_96 ?_
            refine zA_iconst dX10_firstDay_97 ?_
            refine zA_iadd dX10_firstDay_98 ?_
            refine zA_iret dX10_firstDay_99 rfl ?_
            refine ⟨⟨_, rfl, Or.inr ⟨by omega, ⟨by omega, by omega, fun x h1 h2 => ?_⟩, fun x h1 h2 h3 => ?_⟩⟩, rfl, rfl⟩
            · rcases hz with ⟨z1, z2⟩ | ⟨z1, z2⟩
              · by_cases hx : x = e
                · rw [hx]; exact z2
                · exact hg x (by omega) (by omega)
              · omega
            · obtain ⟨k1, k2, k3⟩ := h3
              obtain ⟨z', z1, z2, z3⟩ := hp x (by omega) (by omega)
              exact z3 (k3 z' z1 z2)
        refine zA_aload_n dX10_firstDay_53 rfl ?_
        refine zA_getR (n := (y + 3)) dX10_firstDay_54 fX10_18 (cY0 hy) rfl ?_
        refine zA_iload dX10_firstDay_57 rfl ?_
        refine zA_iaload dX10_firstDay_59 (cY3 hy) (by first | assumption | omega) (by first | assumption | omega) (by decide) ?_
        refine zA_iload dX10_firstDay_60 rfl ?_
        refine zA_icmp_gt (tgt := 82) dX10_firstDay_62 (by decide) (by first | assumption | exact hr _ _ | exact inR_mk (by omega) (by omega)) (by first | assumption | exact hr _ _ | exact inR_mk (by omega) (by omega)) (fun c62 => ?_) (fun c62 => ?_)
        · skip
          refine zA_iconst dX10_firstDay_82 ?_
          exact L83 0 (Or.inr ⟨rfl, fun h => by obtain ⟨h1, h2⟩ := h; first | omega | (simp only [Int.add_zero] at c72; rw [h2] at c72; simp at c72)⟩)
        · skip
          refine zA_aload_n dX10_firstDay_65 rfl ?_
          refine zA_iload_n dX10_firstDay_66 rfl ?_
          refine zA_iload dX10_firstDay_67 rfl ?_
          refine zA_cV (st := []) dX10_firstDay_69 vX10_hasNest kX10_58 (s_hasNest (w := w) (y := y) (a := w (y + 4) (a * 6 + 0)) (d := e) hy q1 (by omega) (by omega) (by omega) (hne _ q1 (by omega)).1 (hne _ q1 (by omega)).2) (by decide) (cY0 hy) rfl rfl (Nat.le_of_ble_eq_true rfl) rfl (zRt_el ?_)
          show zA l mX10_firstDay gr 2 0 0 (zRp1 (isFst (yCan w y a) d) (ZZ t dr tx) w) zNo 72 [zR y, zI a, zI d, zI (w (y + 4) (a * 6 + 0)), zI (w (y + 4) (a * 6 + 2)), zI (w (y + 4) (a * 6 + 1)), zI (w (y + 4) (a * 6 + 4)), zI r, zI e] [zI (if tb (w (y + 5) (w (y + 4) (a * 6 + 0))) e = true then 1 else 0)] (ZZ t dr tx) w
          refine zA_if_ne (tgt := 82) dX10_firstDay_72 (by decide) (by first | assumption | exact hr _ _ | exact inR_mk (by omega) (by omega)) (fun c72 => ?_) (fun c72 => ?_)
          · skip
            refine zA_iconst dX10_firstDay_82 ?_
            exact L83 0 (Or.inr ⟨rfl, fun h => by obtain ⟨h1, h2⟩ := h; first | omega | (simp only [Int.add_zero] at c72; rw [h2] at c72; simp at c72)⟩)
          · skip
            refine zA_iload dX10_firstDay_75 rfl ?_
            refine zA_iconst dX10_firstDay_77 ?_
            refine zA_iadd dX10_firstDay_78 ?_
            refine zA_goto (tgt := 83) dX10_firstDay_79 (by decide) ?_
            exact L83 (r + 1) (Or.inl ⟨rfl, by omega, by rw [hz0] at c72; cases ht : tb (w (y + 5) (w (y + 4) (a * 6))) e with | false => rfl | true => rw [ht] at c72; exact absurd c72 (by decide)⟩)
  exact L46 _ 0 (max d (w (y + 4) (a * 6 + 3))) (by omega) (by omega) (by omega) (fun x h1 h2 => by omega) (Or.inl (by omega)) (fun x h1 h2 => by omega) (by omega) (Nat.lt_succ_self _)

set_option maxRecDepth 100000 in
set_option maxHeartbeats 4000000 in
theorem s_addNest {l : Launch} {t dr tx : Nat} {w : zW} {gr : Bool} {y : Nat} (hy : y = 4 ∨ y = 10) {a f g : Int} (hb : ∀ c : Int, 0 ≤ c → c < 12 → 0 ≤ w (y + 5) c ∧ w (y + 5) c < 1073741824) (a0 : 0 ≤ a) (a1 : a < 12) (f0 : 0 ≤ f) (f1 : f ≤ g) (g1 : g ≤ 29) (hn0 : 0 ≤ w y 8) (hn1 : w y 8 ≤ 100) : zSp l mX10_addNest gr 1 0 0 [zR y, zI a, zI f, zI g] (ZZ t dr tx) w (fun v' S' w' => v' = none ∧ S' = (ZZ t dr tx) ∧ (∀ c i, c ≠ y → c ≠ y + 5 → w' c i = w c i) ∧ (∀ i, i ≠ 8 → w' y i = w y i) ∧ w' y 8 = w y 8 + 1 ∧ (∀ c, c ≠ a → w' (y + 5) c = w (y + 5) c) ∧ (0 ≤ w' (y + 5) a ∧ w' (y + 5) a < 1073741824) ∧ ∀ d, 0 ≤ d → tb (w' (y + 5) a) d = (tb (w (y + 5) a) d || decide (f ≤ d ∧ d ≤ g))) zNo := by
  refine zA_intro ⟨plainFor_of_name (by decide +kernel), Or.inl (by decide +kernel)⟩ rfl (Nat.le_of_ble_eq_true rfl) ?_
  refine zA_range (fun hr => ?_)
  show zA l mX10_addNest gr 1 0 0 (fun v' S' w' => v' = none ∧ S' = (ZZ t dr tx) ∧ (∀ c i, c ≠ y → c ≠ y + 5 → w' c i = w c i) ∧ (∀ i, i ≠ 8 → w' y i = w y i) ∧ w' y 8 = w y 8 + 1 ∧ (∀ c, c ≠ a → w' (y + 5) c = w (y + 5) c) ∧ (0 ≤ w' (y + 5) a ∧ w' (y + 5) a < 1073741824) ∧ ∀ d, 0 ≤ d → tb (w' (y + 5) a) d = (tb (w (y + 5) a) d || decide (f ≤ d ∧ d ≤ g))) zNo 0 [zR y, zI a, zI f, zI g, .null] [] (ZZ t dr tx) w
  refine zA_iload_n dX10_addNest_0 rfl ?_
  refine zA_istore (lo1 := [zR y, zI a, zI f, zI g, zI f]) dX10_addNest_1 (by decide) rfl rfl ?_
  have L3 : ∀ (z3 : Nat) (d : Int) (w1 : zW) (d0 : f ≤ d) (d1 : d ≤ g + 1) (hf : only (y + 5) w w1) (ho : ∀ c, c ≠ a → w1 (y + 5) c = w (y + 5) c) (hr1 : 0 ≤ w1 (y + 5) a ∧ w1 (y + 5) a < 1073741824) (ht : ∀ x, 0 ≤ x → tb (w1 (y + 5) a) x = (tb (w (y + 5) a) x || decide (f ≤ x ∧ x < d))) (zm : (g + 1 - d).toNat < z3), zA l mX10_addNest gr 1 0 0 (fun v' S' w' => v' = none ∧ S' = (ZZ t dr tx) ∧ (∀ c i, c ≠ y → c ≠ y + 5 → w' c i = w c i) ∧ (∀ i, i ≠ 8 → w' y i = w y i) ∧ w' y 8 = w y 8 + 1 ∧ (∀ c, c ≠ a → w' (y + 5) c = w (y + 5) c) ∧ (0 ≤ w' (y + 5) a ∧ w' (y + 5) a < 1073741824) ∧ ∀ d, 0 ≤ d → tb (w' (y + 5) a) d = (tb (w (y + 5) a) d || decide (f ≤ d ∧ d ≤ g))) zNo 3 [zR y, zI a, zI f, zI g, zI d] [] (ZZ t dr tx) w1 := by
    intro z3
    induction z3 with
    | zero => intro d w1 d0 d1 hf ho hr1 ht zm; exact absurd zm (Nat.not_lt_zero _)
    | succ z3 ih3 =>
      intro d w1 d0 d1 hf ho hr1 ht zm
      refine zA_range (fun hr => ?_)
      refine zA_iload dX10_addNest_3 rfl ?_
      refine zA_iload_n dX10_addNest_5 rfl ?_
      refine zA_icmp_gt (tgt := 28) dX10_addNest_6 (by decide) (by first | assumption | exact hr _ _ | exact inR_mk (by omega) (by omega)) (by first | assumption | exact hr _ _ | exact inR_mk (by omega) (by omega)) (fun c6 => ?_) (fun c6 => ?_)
      · skip
        have e8 : w1 y 8 = w y 8 := hf y 8 (by omega)
        have e8c : w1 y ((8 : Nat) : Int) = w y 8 := e8
        refine zA_aload_n dX10_addNest_28 rfl ?_
        refine zA_dup dX10_addNest_29 rfl ?_
        refine zA_getI dX10_addNest_30 fX10_37 (cY0 hy) rfl ?_
        refine zA_iconst dX10_addNest_33 ?_
        refine zA_iadd dX10_addNest_34 ?_
        refine zA_putI dX10_addNest_35 fX10_37 (cY0 hy) rfl (by first | assumption | exact hr _ _ | exact inR_mk (by omega) (by omega)) ⟨rfl, rfl⟩ ?_
        refine zA_namew (fun w_1 hw_1 => ?_)
        refine zA_range (fun hr => ?_)
        refine zA_vret dX10_addNest_38 rfl ?_
        rw [hw_1, show ((8 : Nat) : Int) = 8 from rfl]
        refine ⟨rfl, rfl, fun c i h1 h2 => ?_, fun i hi => ?_, ?_, fun c hc => ?_, ?_, fun x hx => ?_⟩
        · rw [up_cell _ _ _ _ h1]; exact hf c i h2
        · rw [up_idx _ _ _ _ hi]; exact hf y i (by omega)
        · rw [up_same, e8]
        · rw [up_cell _ _ _ _ (by omega)]; exact ho c hc
        · rw [up_cell _ _ _ _ (by omega)]; exact hr1
        · rw [up_cell _ _ _ _ (by omega), ht x hx]
          congr 1
          rw [decide_eq_decide]
          omega
      · skip
        have ho2 := tb_or (x := w1 (y + 5) a) (i := d) hr1.1 (by omega) (by omega) (by omega)
        have ho3 : iOr (w1 (y + 5) a) (iShl 1 d) < 1073741824 := tb_lt (k := 30) ho2.1.1 (fun j hj => by
          rw [ho2.2 j (by omega), tb_hi (k := 30) (by omega) hj]
          simp; omega)
        refine zA_aload_n dX10_addNest_9 rfl ?_
        refine zA_getR (n := (y + 5)) dX10_addNest_10 fX10_24 (cY0 hy) rfl ?_
        refine zA_iload_n dX10_addNest_13 rfl ?_
        refine zA_dup2 dX10_addNest_14 rfl rfl ?_
        refine zA_iaload dX10_addNest_15 (cY5 hy) (by first | assumption | omega) (by first | assumption | omega) (by decide) ?_
        refine zA_iconst dX10_addNest_16 ?_
        refine zA_iload dX10_addNest_17 rfl ?_
        refine zA_ishl dX10_addNest_19 ?_
        refine zA_ior dX10_addNest_20 ?_
        refine zA_iastore dX10_addNest_21 (by first | assumption | exact hr _ _ | exact inR_mk (by omega) (by omega)) (cY5 hy) (by first | assumption | omega) (by first | assumption | omega) (by decide) ?_
        refine zA_namew (fun w_2 hw_2 => ?_)
        refine zA_range (fun hr => ?_)
        refine zA_iinc (lo1 := [zR y, zI a, zI f, zI g, zI (d + 1)]) dX10_addNest_22 rfl (by decide) rfl rfl ?_
        refine zA_goto (tgt := 3) dX10_addNest_25 (by decide) ?_
        exact ih3 (d + 1) w_2 (by omega) (by omega) (by rw [hw_2]; exact only_up hf) (fun c hc => by rw [hw_2, up_idx _ _ _ _ hc]; exact ho c hc) (by rw [hw_2, up_same]; exact ⟨ho2.1.1, ho3⟩) (fun x hx => by
            rw [hw_2, up_same, ho2.2 x hx, ht x hx, Bool.or_assoc]
            congr 1
            rw [← Bool.decide_or, decide_eq_decide]
            omega) (by omega)
  exact L3 _ f w (by omega) (by omega) only_rfl (fun _ _ => rfl) (hb a a0 a1) (fun x hx => by simp; omega) (Nat.lt_succ_self _)

