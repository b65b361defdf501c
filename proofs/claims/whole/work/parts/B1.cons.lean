/-! constructors -/
theorem zl0 {S0 lst : zS} {o : Nat} (ho : S0.length = o) {j : Nat} {x : zK} (h : lst[j]? = some x) : (S0 ++ lst)[o + j]? = some x := by
  subst ho
  rw [List.getElem?_append_right (Nat.le_add_right _ _), Nat.add_sub_cancel_left]
  exact h
theorem zl1 {S0 lst : zS} {o : Nat} (ho : S0.length = o) (x : zK) : (S0 ++ lst).set o x = S0 ++ lst.set 0 x := by
  subst ho
  rw [List.set_append_right _ _ (Nat.le_refl _), Nat.sub_self]
theorem up_id {w : zW} {c : Nat} {k : Int} (h : w c k = 0) : up w c k 0 = w := by
  funext c' i'
  unfold up
  split
  · rename_i q; rw [q.1, q.2, h]
  · rfl
theorem zin_int : Cond.arrayClass (newarray.typeOf .int) ∈ zTB := zin 166 (by decide +kernel) rfl
theorem zin_bool : Cond.arrayClass (newarray.typeOf .boolean) ∈ zTB := zin 1803 (by decide +kernel) rfl
theorem zin_long : Cond.arrayClass (newarray.typeOf .long) ∈ zTB := zin 2246 (by decide +kernel) rfl
theorem zin_oi : Cond.instanceMethod Lib.objectInit ∈ zTB := zin 132 (by decide +kernel) rfl
theorem zin_oc : Cond.code Lib.objectInit ⟨#[0xb1]⟩ 1 none ∈ zTB := zin 133 (by decide +kernel) rfl
section ZM
variable {l : Launch} {M : zM} {d bc bs : Nat} {Q : Option Value → zS → zW → Prop} {X : String → zS → zW → Prop} {pc : Nat} {lo st : List Value} {S0 lst lst2 : zS} {w : zW} {o : Nat}
theorem zM_newa {atype : ArrayType} {t n bc2 bs2 k : Nat} {z : Int} (hd : decode M.2.1 pc = .ok (.newarray atype, 2)) (ht : (atype = .int ∧ t = 0) ∨ (atype = .boolean ∧ t = 1) ∨ (atype = .long ∧ t = 2)) (harr : Cond.arrayClass (newarray.typeOf atype) ∈ zTB) (hz : z = (n : Int)) (hn : n < 100000) (ho : S0.length = o) (hk : lst.length = k) (h2 : lst ++ [.inl (t, n)] = lst2) (hl : o + k + 1 < 1000) (hw : ∀ x : Int, w (o + k) x = 0) (hb : bc = bc2 + 1 ∧ bs = bs2 + n)
    (kk : zA l M true d bc2 bs2 Q X (pc + 2) lo (zR (o + k) :: st) (S0 ++ lst2) w) : zA l M true d bc bs Q X pc lo (zI z :: st) (S0 ++ lst) w := by
  subst hz
  have hlen : (S0 ++ lst).length = o + k := by rw [List.length_append, ho, hk]
  refine zN_newa hd ht harr hn (fun x => by rw [hlen]; exact hw x) hb (by rw [hlen]; exact hl) ?_
  rw [hlen, List.append_assoc, h2]
  exact kk
theorem zM_put0 {idx ci k : Nat} {ty : FieldType} {fs : List Nat} (hd : decode M.2.1 pc = .ok (.putfield idx, 3)) (hf : zFL M.1.cls idx ci k ty false) (ho : S0.length = o) (h0 : lst[0]? = some (.inr (ci, fs))) (hk : fs[k]? = some 0) (hn : narrow ty (.int (Int32.ofInt 0)) = .int (Int32.ofInt 0) ∧ fits ty (.int (Int32.ofInt 0)) = true) (hw : w o (k : Int) = 0) (kk : zA l M true d bc bs Q X (pc + 3) lo st (S0 ++ lst) w) : zA l M true d bc bs Q X pc lo (zI 0 :: zR o :: st) (S0 ++ lst) w := by
  refine zA_putI hd hf (zl0 (j := 0) ho h0) hk ⟨by decide, by decide⟩ hn ?_
  rw [up_id hw]
  exact kk
theorem zM_putI {idx ci k : Nat} {ty : FieldType} {fs : List Nat} {v : Int} (hd : decode M.2.1 pc = .ok (.putfield idx, 3)) (hf : zFL M.1.cls idx ci k ty false) (ho : S0.length = o) (h0 : lst[0]? = some (.inr (ci, fs))) (hk : fs[k]? = some 0) (hv : inR v) (hn : narrow ty (.int (Int32.ofInt v)) = .int (Int32.ofInt v) ∧ fits ty (.int (Int32.ofInt v)) = true) (kk : zA l M true d bc bs Q X (pc + 3) lo st (S0 ++ lst) (up w o (k : Int) v)) : zA l M true d bc bs Q X pc lo (zI v :: zR o :: st) (S0 ++ lst) w :=
  zA_putI hd hf (zl0 (j := 0) ho h0) hk hv hn kk
theorem zM_putR {idx ci k n : Nat} {ty : FieldType} {fs : List Nat} (hd : decode M.2.1 pc = .ok (.putfield idx, 3)) (hf : zFL M.1.cls idx ci k ty false) (ho : S0.length = o) (h0 : lst[0]? = some (.inr (ci, fs))) (hk : k < fs.length) (hn : (∀ a : Nat, narrow ty (.ref a) = .ref a) ∧ (∀ a : Nat, fits ty (.ref a) = true)) (h2 : lst.set 0 (.inr (ci, fs.set k (n + 2))) = lst2) (kk : zA l M true d bc bs Q X (pc + 3) lo st (S0 ++ lst2) w) : zA l M true d bc bs Q X pc lo (zR n :: zR o :: st) (S0 ++ lst) w := by
  refine zA_putR hd hf (zl0 (j := 0) ho h0) hk hn ?_
  rw [zl1 ho, h2]
  exact kk
theorem zM_putFR {idx ci k n : Nat} {ty : FieldType} {fs : List Nat} {T0 : u_T} {N0 : Nat} (hd : decode M.2.1 pc = .ok (.putfield idx, 3)) (hf : zFL M.1.cls idx ci k ty true) (hini : M.1.name = "<init>") (hcl0 : vwCl[ci]? = some (M.1.cls, T0, N0)) (ho : S0.length = o) (h0 : lst[0]? = some (.inr (ci, fs))) (hk : k < fs.length) (hn : (∀ a : Nat, narrow ty (.ref a) = .ref a) ∧ (∀ a : Nat, fits ty (.ref a) = true)) (h2 : lst.set 0 (.inr (ci, fs.set k (n + 2))) = lst2) (kk : zA l M true d bc bs Q X (pc + 3) lo st (S0 ++ lst2) w) : zA l M true d bc bs Q X pc lo (zR n :: zR o :: st) (S0 ++ lst) w := by
  refine zA_putFR hd hf hini hcl0 (zl0 (j := 0) ho h0) hk hn ?_
  rw [zl1 ho, h2]
  exact kk
end ZM
def qX8 (S0 : zS) (o : Nat) (w : zW) : Option Value → zS → zW → Prop := fun v' S' w' => v' = none ∧ S' = S0 ++ [.inr (7, [o + 1 + 2, 0, 0, 0, 0, 0, 0, 0]), .inl (0, 0)] ∧ w' = up w o 7 (-1)
theorem jX8 : zMI mX8_init 0 := ⟨iX8_init, rfl, rfl, rfl, by decide, by decide +kernel, by decide +kernel, by decide +kernel⟩
set_option maxRecDepth 100000 in
set_option maxHeartbeats 4000000 in
theorem n_X8 {l : Launch} {S0 : zS} {w : zW} {o : Nat} (ho : S0.length = o) (hl : o < 900) (hz : ∀ (c : Nat) (x : Int), o ≤ c → c < o + 2 → w c x = 0) : zSp l mX8_init true 2 1 0 [zR o] (S0 ++ [.inr (7, [1, 0, 0, 0, 0, 0, 0, 0])]) w (qX8 S0 o w) zNo := by
  refine zA_intro ⟨plainFor_of_name (by decide +kernel), Or.inl (by decide +kernel)⟩ rfl (Nat.le_of_ble_eq_true rfl) ?_
  show zA l mX8_init true 2 1 0 (qX8 S0 o w) zNo 0 [zR o] [] (S0 ++ [.inr (7, [1, 0, 0, 0, 0, 0, 0, 0])]) w
  refine zA_aload_n dX8_init_0 rfl ?_
  show zA l mX8_init true 2 1 0 (qX8 S0 o w) zNo 1 [zR o] [zR o] (S0 ++ [.inr (7, [1, 0, 0, 0, 0, 0, 0, 0])]) w
  refine zN_objInit dX8_init_1 koX8_3 zin_oi zin_oc (by simp) ?_
  show zA l mX8_init true 2 1 0 (qX8 S0 o w) zNo 4 [zR o] [] (S0 ++ [.inr (7, [1, 0, 0, 0, 0, 0, 0, 0])]) w
  refine zA_aload_n dX8_init_4 rfl ?_
  show zA l mX8_init true 2 1 0 (qX8 S0 o w) zNo 5 [zR o] [zR o] (S0 ++ [.inr (7, [1, 0, 0, 0, 0, 0, 0, 0])]) w
  refine zA_iconst dX8_init_5 ?_
  show zA l mX8_init true 2 1 0 (qX8 S0 o w) zNo 6 [zR o] [zI 0, zR o] (S0 ++ [.inr (7, [1, 0, 0, 0, 0, 0, 0, 0])]) w
  refine zM_newa (t := 0) (n := 0) (k := 1) (bc2 := 0) (bs2 := 0) (lst2 := [.inr (7, [1, 0, 0, 0, 0, 0, 0, 0]), .inl (0, 0)]) dX8_init_6 (Or.inl ⟨rfl, rfl⟩) zin_int rfl (by decide) ho rfl rfl (by omega) (fun x => hz _ _ (by omega) (by omega)) ⟨rfl, rfl⟩ ?_
  show zA l mX8_init true 2 0 0 (qX8 S0 o w) zNo 8 [zR o] [zR (o + 1), zR o] (S0 ++ [.inr (7, [1, 0, 0, 0, 0, 0, 0, 0]), .inl (0, 0)]) w
  refine zM_putR (lst2 := [.inr (7, [o + 1 + 2, 0, 0, 0, 0, 0, 0, 0]), .inl (0, 0)]) dX8_init_8 fX8_9 ho rfl (Nat.le_of_ble_eq_true rfl) ⟨fun _ => rfl, fun _ => rfl⟩ rfl ?_
  show zA l mX8_init true 2 0 0 (qX8 S0 o w) zNo 11 [zR o] [] (S0 ++ [.inr (7, [o + 1 + 2, 0, 0, 0, 0, 0, 0, 0]), .inl (0, 0)]) w
  refine zA_aload_n dX8_init_11 rfl ?_
  show zA l mX8_init true 2 0 0 (qX8 S0 o w) zNo 12 [zR o] [zR o] (S0 ++ [.inr (7, [o + 1 + 2, 0, 0, 0, 0, 0, 0, 0]), .inl (0, 0)]) w
  refine zA_iconst dX8_init_12 ?_
  show zA l mX8_init true 2 0 0 (qX8 S0 o w) zNo 13 [zR o] [zI 0, zR o] (S0 ++ [.inr (7, [o + 1 + 2, 0, 0, 0, 0, 0, 0, 0]), .inl (0, 0)]) w
  refine zM_put0 dX8_init_13 fX8_15 ho rfl rfl ⟨rfl, rfl⟩ (hz _ _ (by omega) (by omega)) ?_
  show zA l mX8_init true 2 0 0 (qX8 S0 o w) zNo 16 [zR o] [] (S0 ++ [.inr (7, [o + 1 + 2, 0, 0, 0, 0, 0, 0, 0]), .inl (0, 0)]) w
  refine zA_aload_n dX8_init_16 rfl ?_
  show zA l mX8_init true 2 0 0 (qX8 S0 o w) zNo 17 [zR o] [zR o] (S0 ++ [.inr (7, [o + 1 + 2, 0, 0, 0, 0, 0, 0, 0]), .inl (0, 0)]) w
  refine zA_iconst dX8_init_17 ?_
  show zA l mX8_init true 2 0 0 (qX8 S0 o w) zNo 18 [zR o] [zI 0, zR o] (S0 ++ [.inr (7, [o + 1 + 2, 0, 0, 0, 0, 0, 0, 0]), .inl (0, 0)]) w
  refine zM_put0 dX8_init_18 fX8_19 ho rfl rfl ⟨rfl, rfl⟩ (hz _ _ (by omega) (by omega)) ?_
  show zA l mX8_init true 2 0 0 (qX8 S0 o w) zNo 21 [zR o] [] (S0 ++ [.inr (7, [o + 1 + 2, 0, 0, 0, 0, 0, 0, 0]), .inl (0, 0)]) w
  refine zA_aload_n dX8_init_21 rfl ?_
  show zA l mX8_init true 2 0 0 (qX8 S0 o w) zNo 22 [zR o] [zR o] (S0 ++ [.inr (7, [o + 1 + 2, 0, 0, 0, 0, 0, 0, 0]), .inl (0, 0)]) w
  refine zA_iconst dX8_init_22 ?_
  show zA l mX8_init true 2 0 0 (qX8 S0 o w) zNo 23 [zR o] [zI 0, zR o] (S0 ++ [.inr (7, [o + 1 + 2, 0, 0, 0, 0, 0, 0, 0]), .inl (0, 0)]) w
  refine zM_put0 dX8_init_23 fX8_22 ho rfl rfl ⟨rfl, rfl⟩ (hz _ _ (by omega) (by omega)) ?_
  show zA l mX8_init true 2 0 0 (qX8 S0 o w) zNo 26 [zR o] [] (S0 ++ [.inr (7, [o + 1 + 2, 0, 0, 0, 0, 0, 0, 0]), .inl (0, 0)]) w
  refine zA_aload_n dX8_init_26 rfl ?_
  show zA l mX8_init true 2 0 0 (qX8 S0 o w) zNo 27 [zR o] [zR o] (S0 ++ [.inr (7, [o + 1 + 2, 0, 0, 0, 0, 0, 0, 0]), .inl (0, 0)]) w
  refine zA_iconst dX8_init_27 ?_
  show zA l mX8_init true 2 0 0 (qX8 S0 o w) zNo 28 [zR o] [zI 0, zR o] (S0 ++ [.inr (7, [o + 1 + 2, 0, 0, 0, 0, 0, 0, 0]), .inl (0, 0)]) w
  refine zM_put0 dX8_init_28 fX8_25 ho rfl rfl ⟨rfl, rfl⟩ (hz _ _ (by omega) (by omega)) ?_
  show zA l mX8_init true 2 0 0 (qX8 S0 o w) zNo 31 [zR o] [] (S0 ++ [.inr (7, [o + 1 + 2, 0, 0, 0, 0, 0, 0, 0]), .inl (0, 0)]) w
  refine zA_aload_n dX8_init_31 rfl ?_
  show zA l mX8_init true 2 0 0 (qX8 S0 o w) zNo 32 [zR o] [zR o] (S0 ++ [.inr (7, [o + 1 + 2, 0, 0, 0, 0, 0, 0, 0]), .inl (0, 0)]) w
  refine zA_iconst dX8_init_32 ?_
  show zA l mX8_init true 2 0 0 (qX8 S0 o w) zNo 33 [zR o] [zI 0, zR o] (S0 ++ [.inr (7, [o + 1 + 2, 0, 0, 0, 0, 0, 0, 0]), .inl (0, 0)]) w
  refine zM_put0 dX8_init_33 fX8_28 ho rfl rfl ⟨rfl, rfl⟩ (hz _ _ (by omega) (by omega)) ?_
  show zA l mX8_init true 2 0 0 (qX8 S0 o w) zNo 36 [zR o] [] (S0 ++ [.inr (7, [o + 1 + 2, 0, 0, 0, 0, 0, 0, 0]), .inl (0, 0)]) w
  refine zA_aload_n dX8_init_36 rfl ?_
  show zA l mX8_init true 2 0 0 (qX8 S0 o w) zNo 37 [zR o] [zR o] (S0 ++ [.inr (7, [o + 1 + 2, 0, 0, 0, 0, 0, 0, 0]), .inl (0, 0)]) w
  refine zA_iconst dX8_init_37 ?_
  show zA l mX8_init true 2 0 0 (qX8 S0 o w) zNo 38 [zR o] [zI 0, zR o] (S0 ++ [.inr (7, [o + 1 + 2, 0, 0, 0, 0, 0, 0, 0]), .inl (0, 0)]) w
  refine zM_put0 dX8_init_38 fX8_31 ho rfl rfl ⟨rfl, rfl⟩ (hz _ _ (by omega) (by omega)) ?_
  show zA l mX8_init true 2 0 0 (qX8 S0 o w) zNo 41 [zR o] [] (S0 ++ [.inr (7, [o + 1 + 2, 0, 0, 0, 0, 0, 0, 0]), .inl (0, 0)]) w
  refine zA_aload_n dX8_init_41 rfl ?_
  show zA l mX8_init true 2 0 0 (qX8 S0 o w) zNo 42 [zR o] [zR o] (S0 ++ [.inr (7, [o + 1 + 2, 0, 0, 0, 0, 0, 0, 0]), .inl (0, 0)]) w
  refine zA_iconst dX8_init_42 ?_
  show zA l mX8_init true 2 0 0 (qX8 S0 o w) zNo 43 [zR o] [zI (-1), zR o] (S0 ++ [.inr (7, [o + 1 + 2, 0, 0, 0, 0, 0, 0, 0]), .inl (0, 0)]) w
  refine zM_putI dX8_init_43 fX8_34 ho rfl rfl ⟨by decide, by decide⟩ ⟨rfl, rfl⟩ ?_
  have hw_ : ∀ (cc : Nat) (x : Int), o < cc → (up w o 7 (-1)) cc x = w cc x := fun cc x hc => by rw [up_n (by omega)]
  show zA l mX8_init true 2 0 0 (qX8 S0 o w) zNo 46 [zR o] [] (S0 ++ [.inr (7, [o + 1 + 2, 0, 0, 0, 0, 0, 0, 0]), .inl (0, 0)]) (up w o 7 (-1))
  exact zA_vret dX8_init_46 rfl ⟨rfl, rfl, rfl⟩
def qX10_cl (S0 : zS) (o : Nat) (w : zW) : Option Value → zS → zW → Prop := fun v' S' w' => v' = none ∧ S' = S0 ++ [.inr (9, [o + 1 + 2, o + 2 + 2, o + 3 + 2, o + 4 + 2, o + 5 + 2, 0, 0, 0, 0]), .inl (0, 12), .inl (0, 144), .inl (0, 30), .inl (0, 48), .inl (0, 12)] ∧ (∀ (c : Nat) (x : Int), c ≠ o + 2 → c ≠ o + 3 → c ≠ o + 5 → (c ≠ o ∨ (x ≠ 5 ∧ x ≠ 6 ∧ x ≠ 7 ∧ x ≠ 8)) → w' c x = w c x) ∧ (∀ i : Int, 0 ≤ i → i < 144 → w' (o + 2) i = 1) ∧ (∀ i : Int, 0 ≤ i → i < 30 → w' (o + 3) i = 13) ∧ (∀ i : Int, 0 ≤ i → i < 12 → w' (o + 5) i = 0) ∧ w' o 5 = 0 ∧ w' o 6 = 0 ∧ w' o 7 = 0 ∧ w' o 8 = 0
set_option maxRecDepth 100000 in
set_option maxHeartbeats 4000000 in
theorem n_X10_cl {l : Launch} {S0 : zS} {w : zW} {o : Nat} (ho : S0.length = o) : zSp l mX10_clear true 2 0 0 [zR o] (S0 ++ [.inr (9, [o + 1 + 2, o + 2 + 2, o + 3 + 2, o + 4 + 2, o + 5 + 2, 0, 0, 0, 0]), .inl (0, 12), .inl (0, 144), .inl (0, 30), .inl (0, 48), .inl (0, 12)]) w (qX10_cl S0 o w) zNo := by
  refine zA_intro ⟨plainFor_of_name (by decide +kernel), Or.inl (by decide +kernel)⟩ rfl (Nat.le_of_ble_eq_true rfl) ?_
  show zA l mX10_clear true 2 0 0 (qX10_cl S0 o w) zNo 0 [zR o] [] (S0 ++ [.inr (9, [o + 1 + 2, o + 2 + 2, o + 3 + 2, o + 4 + 2, o + 5 + 2, 0, 0, 0, 0]), .inl (0, 12), .inl (0, 144), .inl (0, 30), .inl (0, 48), .inl (0, 12)]) w
  refine zA_aload_n dX10_clear_0 rfl ?_
  show zA l mX10_clear true 2 0 0 (qX10_cl S0 o w) zNo 1 [zR o] [zR o] (S0 ++ [.inr (9, [o + 1 + 2, o + 2 + 2, o + 3 + 2, o + 4 + 2, o + 5 + 2, 0, 0, 0, 0]), .inl (0, 12), .inl (0, 144), .inl (0, 30), .inl (0, 48), .inl (0, 12)]) w
  refine zA_getR (n := o + 2) dX10_clear_1 fX10_15 (zl0 (j := 0) ho rfl) rfl ?_
  show zA l mX10_clear true 2 0 0 (qX10_cl S0 o w) zNo 4 [zR o] [zR (o + 2)] (S0 ++ [.inr (9, [o + 1 + 2, o + 2 + 2, o + 3 + 2, o + 4 + 2, o + 5 + 2, 0, 0, 0, 0]), .inl (0, 12), .inl (0, 144), .inl (0, 30), .inl (0, 48), .inl (0, 12)]) w
  refine zA_iconst dX10_clear_4 ?_
  show zA l mX10_clear true 2 0 0 (qX10_cl S0 o w) zNo 5 [zR o] [zI 1, zR (o + 2)] (S0 ++ [.inr (9, [o + 1 + 2, o + 2 + 2, o + 3 + 2, o + 4 + 2, o + 5 + 2, 0, 0, 0, 0]), .inl (0, 12), .inl (0, 144), .inl (0, 30), .inl (0, 48), .inl (0, 12)]) w
  refine zA_cS (st := []) dX10_clear_5 sJ7_fill_53178 kX10_43 (s_fill (w := w) (q := o + 2) (z := 144) (v := 1) (zl0 (j := 2) ho rfl) (by decide) ⟨by decide, by decide⟩) (by decide) rfl rfl (Nat.le_of_ble_eq_true rfl) (fun v1 S6 w1 h1 => ?_)
  obtain ⟨rfl, rfl, hf1, hg1⟩ := h1
  show zA l mX10_clear true 2 0 0 (qX10_cl S0 o w) zNo 8 [zR o] [] (S0 ++ [.inr (9, [o + 1 + 2, o + 2 + 2, o + 3 + 2, o + 4 + 2, o + 5 + 2, 0, 0, 0, 0]), .inl (0, 12), .inl (0, 144), .inl (0, 30), .inl (0, 48), .inl (0, 12)]) w1
  refine zA_aload_n dX10_clear_8 rfl ?_
  show zA l mX10_clear true 2 0 0 (qX10_cl S0 o w) zNo 9 [zR o] [zR o] (S0 ++ [.inr (9, [o + 1 + 2, o + 2 + 2, o + 3 + 2, o + 4 + 2, o + 5 + 2, 0, 0, 0, 0]), .inl (0, 12), .inl (0, 144), .inl (0, 30), .inl (0, 48), .inl (0, 12)]) w1
  refine zA_getR (n := o + 3) dX10_clear_9 fX10_18 (zl0 (j := 0) ho rfl) rfl ?_
  show zA l mX10_clear true 2 0 0 (qX10_cl S0 o w) zNo 12 [zR o] [zR (o + 3)] (S0 ++ [.inr (9, [o + 1 + 2, o + 2 + 2, o + 3 + 2, o + 4 + 2, o + 5 + 2, 0, 0, 0, 0]), .inl (0, 12), .inl (0, 144), .inl (0, 30), .inl (0, 48), .inl (0, 12)]) w1
  refine zA_bipush dX10_clear_12 rfl ?_
  show zA l mX10_clear true 2 0 0 (qX10_cl S0 o w) zNo 14 [zR o] [zI 13, zR (o + 3)] (S0 ++ [.inr (9, [o + 1 + 2, o + 2 + 2, o + 3 + 2, o + 4 + 2, o + 5 + 2, 0, 0, 0, 0]), .inl (0, 12), .inl (0, 144), .inl (0, 30), .inl (0, 48), .inl (0, 12)]) w1
  refine zA_cS (st := []) dX10_clear_14 sJ7_fill_53178 kX10_43 (s_fill (w := w1) (q := o + 3) (z := 30) (v := 13) (zl0 (j := 3) ho rfl) (by decide) ⟨by decide, by decide⟩) (by decide) rfl rfl (Nat.le_of_ble_eq_true rfl) (fun v2 S7 w2 h2 => ?_)
  obtain ⟨rfl, rfl, hf2, hg2⟩ := h2
  show zA l mX10_clear true 2 0 0 (qX10_cl S0 o w) zNo 17 [zR o] [] (S0 ++ [.inr (9, [o + 1 + 2, o + 2 + 2, o + 3 + 2, o + 4 + 2, o + 5 + 2, 0, 0, 0, 0]), .inl (0, 12), .inl (0, 144), .inl (0, 30), .inl (0, 48), .inl (0, 12)]) w2
  refine zA_aload_n dX10_clear_17 rfl ?_
  show zA l mX10_clear true 2 0 0 (qX10_cl S0 o w) zNo 18 [zR o] [zR o] (S0 ++ [.inr (9, [o + 1 + 2, o + 2 + 2, o + 3 + 2, o + 4 + 2, o + 5 + 2, 0, 0, 0, 0]), .inl (0, 12), .inl (0, 144), .inl (0, 30), .inl (0, 48), .inl (0, 12)]) w2
  refine zA_getR (n := o + 5) dX10_clear_18 fX10_24 (zl0 (j := 0) ho rfl) rfl ?_
  show zA l mX10_clear true 2 0 0 (qX10_cl S0 o w) zNo 21 [zR o] [zR (o + 5)] (S0 ++ [.inr (9, [o + 1 + 2, o + 2 + 2, o + 3 + 2, o + 4 + 2, o + 5 + 2, 0, 0, 0, 0]), .inl (0, 12), .inl (0, 144), .inl (0, 30), .inl (0, 48), .inl (0, 12)]) w2
  refine zA_iconst dX10_clear_21 ?_
  show zA l mX10_clear true 2 0 0 (qX10_cl S0 o w) zNo 22 [zR o] [zI 0, zR (o + 5)] (S0 ++ [.inr (9, [o + 1 + 2, o + 2 + 2, o + 3 + 2, o + 4 + 2, o + 5 + 2, 0, 0, 0, 0]), .inl (0, 12), .inl (0, 144), .inl (0, 30), .inl (0, 48), .inl (0, 12)]) w2
  refine zA_cS (st := []) dX10_clear_22 sJ7_fill_53178 kX10_43 (s_fill (w := w2) (q := o + 5) (z := 12) (v := 0) (zl0 (j := 5) ho rfl) (by decide) ⟨by decide, by decide⟩) (by decide) rfl rfl (Nat.le_of_ble_eq_true rfl) (fun v3 S8 w3 h3 => ?_)
  obtain ⟨rfl, rfl, hf3, hg3⟩ := h3
  show zA l mX10_clear true 2 0 0 (qX10_cl S0 o w) zNo 25 [zR o] [] (S0 ++ [.inr (9, [o + 1 + 2, o + 2 + 2, o + 3 + 2, o + 4 + 2, o + 5 + 2, 0, 0, 0, 0]), .inl (0, 12), .inl (0, 144), .inl (0, 30), .inl (0, 48), .inl (0, 12)]) w3
  refine zA_aload_n dX10_clear_25 rfl ?_
  show zA l mX10_clear true 2 0 0 (qX10_cl S0 o w) zNo 26 [zR o] [zR o] (S0 ++ [.inr (9, [o + 1 + 2, o + 2 + 2, o + 3 + 2, o + 4 + 2, o + 5 + 2, 0, 0, 0, 0]), .inl (0, 12), .inl (0, 144), .inl (0, 30), .inl (0, 48), .inl (0, 12)]) w3
  refine zA_iconst dX10_clear_26 ?_
  show zA l mX10_clear true 2 0 0 (qX10_cl S0 o w) zNo 27 [zR o] [zI 0, zR o] (S0 ++ [.inr (9, [o + 1 + 2, o + 2 + 2, o + 3 + 2, o + 4 + 2, o + 5 + 2, 0, 0, 0, 0]), .inl (0, 12), .inl (0, 144), .inl (0, 30), .inl (0, 48), .inl (0, 12)]) w3
  refine zA_putI dX10_clear_27 fX10_27 (zl0 (j := 0) ho rfl) rfl ⟨by decide, by decide⟩ ⟨rfl, rfl⟩ ?_
  refine zA_namew (fun w4 hp4 => ?_)
  replace hp4 : w4 = up w3 o 5 0 := hp4
  show zA l mX10_clear true 2 0 0 (qX10_cl S0 o w) zNo 30 [zR o] [] (S0 ++ [.inr (9, [o + 1 + 2, o + 2 + 2, o + 3 + 2, o + 4 + 2, o + 5 + 2, 0, 0, 0, 0]), .inl (0, 12), .inl (0, 144), .inl (0, 30), .inl (0, 48), .inl (0, 12)]) w4
  refine zA_aload_n dX10_clear_30 rfl ?_
  show zA l mX10_clear true 2 0 0 (qX10_cl S0 o w) zNo 31 [zR o] [zR o] (S0 ++ [.inr (9, [o + 1 + 2, o + 2 + 2, o + 3 + 2, o + 4 + 2, o + 5 + 2, 0, 0, 0, 0]), .inl (0, 12), .inl (0, 144), .inl (0, 30), .inl (0, 48), .inl (0, 12)]) w4
  refine zA_iconst dX10_clear_31 ?_
  show zA l mX10_clear true 2 0 0 (qX10_cl S0 o w) zNo 32 [zR o] [zI 0, zR o] (S0 ++ [.inr (9, [o + 1 + 2, o + 2 + 2, o + 3 + 2, o + 4 + 2, o + 5 + 2, 0, 0, 0, 0]), .inl (0, 12), .inl (0, 144), .inl (0, 30), .inl (0, 48), .inl (0, 12)]) w4
  refine zA_putI dX10_clear_32 fX10_31 (zl0 (j := 0) ho rfl) rfl ⟨by decide, by decide⟩ ⟨rfl, rfl⟩ ?_
  refine zA_namew (fun w5 hp5 => ?_)
  replace hp5 : w5 = up w4 o 6 0 := hp5
  show zA l mX10_clear true 2 0 0 (qX10_cl S0 o w) zNo 35 [zR o] [] (S0 ++ [.inr (9, [o + 1 + 2, o + 2 + 2, o + 3 + 2, o + 4 + 2, o + 5 + 2, 0, 0, 0, 0]), .inl (0, 12), .inl (0, 144), .inl (0, 30), .inl (0, 48), .inl (0, 12)]) w5
  refine zA_aload_n dX10_clear_35 rfl ?_
  show zA l mX10_clear true 2 0 0 (qX10_cl S0 o w) zNo 36 [zR o] [zR o] (S0 ++ [.inr (9, [o + 1 + 2, o + 2 + 2, o + 3 + 2, o + 4 + 2, o + 5 + 2, 0, 0, 0, 0]), .inl (0, 12), .inl (0, 144), .inl (0, 30), .inl (0, 48), .inl (0, 12)]) w5
  refine zA_iconst dX10_clear_36 ?_
  show zA l mX10_clear true 2 0 0 (qX10_cl S0 o w) zNo 37 [zR o] [zI 0, zR o] (S0 ++ [.inr (9, [o + 1 + 2, o + 2 + 2, o + 3 + 2, o + 4 + 2, o + 5 + 2, 0, 0, 0, 0]), .inl (0, 12), .inl (0, 144), .inl (0, 30), .inl (0, 48), .inl (0, 12)]) w5
  refine zA_putI dX10_clear_37 fX10_34 (zl0 (j := 0) ho rfl) rfl ⟨by decide, by decide⟩ ⟨rfl, rfl⟩ ?_
  refine zA_namew (fun w6 hp6 => ?_)
  replace hp6 : w6 = up w5 o 7 0 := hp6
  show zA l mX10_clear true 2 0 0 (qX10_cl S0 o w) zNo 40 [zR o] [] (S0 ++ [.inr (9, [o + 1 + 2, o + 2 + 2, o + 3 + 2, o + 4 + 2, o + 5 + 2, 0, 0, 0, 0]), .inl (0, 12), .inl (0, 144), .inl (0, 30), .inl (0, 48), .inl (0, 12)]) w6
  refine zA_aload_n dX10_clear_40 rfl ?_
  show zA l mX10_clear true 2 0 0 (qX10_cl S0 o w) zNo 41 [zR o] [zR o] (S0 ++ [.inr (9, [o + 1 + 2, o + 2 + 2, o + 3 + 2, o + 4 + 2, o + 5 + 2, 0, 0, 0, 0]), .inl (0, 12), .inl (0, 144), .inl (0, 30), .inl (0, 48), .inl (0, 12)]) w6
  refine zA_iconst dX10_clear_41 ?_
  show zA l mX10_clear true 2 0 0 (qX10_cl S0 o w) zNo 42 [zR o] [zI 0, zR o] (S0 ++ [.inr (9, [o + 1 + 2, o + 2 + 2, o + 3 + 2, o + 4 + 2, o + 5 + 2, 0, 0, 0, 0]), .inl (0, 12), .inl (0, 144), .inl (0, 30), .inl (0, 48), .inl (0, 12)]) w6
  refine zA_putI dX10_clear_42 fX10_37 (zl0 (j := 0) ho rfl) rfl ⟨by decide, by decide⟩ ⟨rfl, rfl⟩ ?_
  refine zA_namew (fun w7 hp7 => ?_)
  replace hp7 : w7 = up w6 o 8 0 := hp7
  show zA l mX10_clear true 2 0 0 (qX10_cl S0 o w) zNo 45 [zR o] [] (S0 ++ [.inr (9, [o + 1 + 2, o + 2 + 2, o + 3 + 2, o + 4 + 2, o + 5 + 2, 0, 0, 0, 0]), .inl (0, 12), .inl (0, 144), .inl (0, 30), .inl (0, 48), .inl (0, 12)]) w7
  exact zA_vret dX10_clear_45 rfl ⟨rfl, rfl, fun c x a0 a1 a2 b => by rw [hp7, up_n (by omega), hp6, up_n (by omega), hp5, up_n (by omega), hp4, up_n (by omega), hf3 c x a2, hf2 c x a1, hf1 c x a0], fun i a b => by rw [hp7, up_n (by omega), hp6, up_n (by omega), hp5, up_n (by omega), hp4, up_n (by omega), hf3 _ _ (by omega), hf2 _ _ (by omega)]; exact hg1 i a b, fun i a b => by rw [hp7, up_n (by omega), hp6, up_n (by omega), hp5, up_n (by omega), hp4, up_n (by omega), hf3 _ _ (by omega)]; exact hg2 i a b, fun i a b => by rw [hp7, up_n (by omega), hp6, up_n (by omega), hp5, up_n (by omega), hp4, up_n (by omega)]; exact hg3 i a b, by rw [hp7, up_n (by omega), hp6, up_n (by omega), hp5, up_n (by omega), hp4, up_same], by rw [hp7, up_n (by omega), hp6, up_n (by omega), hp5, up_same], by rw [hp7, up_n (by omega), hp6, up_same], by rw [hp7, up_same]⟩
def qX10 (S0 : zS) (o : Nat) (w : zW) : Option Value → zS → zW → Prop := fun v' S' w' => v' = none ∧ S' = S0 ++ [.inr (9, [o + 1 + 2, o + 2 + 2, o + 3 + 2, o + 4 + 2, o + 5 + 2, 0, 0, 0, 0]), .inl (0, 12), .inl (0, 144), .inl (0, 30), .inl (0, 48), .inl (0, 12)] ∧ (∀ (c : Nat) (x : Int), c ≠ o + 2 → c ≠ o + 3 → c ≠ o + 5 → w' c x = w c x) ∧ (∀ i : Int, 0 ≤ i → i < 144 → w' (o + 2) i = 1) ∧ (∀ i : Int, 0 ≤ i → i < 30 → w' (o + 3) i = 13) ∧ (∀ i : Int, 0 ≤ i → i < 12 → w' (o + 5) i = 0)
theorem jX10 : zMI mX10_init 0 := ⟨iX10_init, rfl, rfl, rfl, by decide, by decide +kernel, by decide +kernel, by decide +kernel⟩
set_option maxRecDepth 100000 in
set_option maxHeartbeats 4000000 in
theorem n_X10 {l : Launch} {S0 : zS} {w : zW} {o : Nat} (ho : S0.length = o) (hl : o < 900) (hz : ∀ (c : Nat) (x : Int), o ≤ c → c < o + 6 → w c x = 0) : zSp l mX10_init true 3 5 246 [zR o] (S0 ++ [.inr (9, [1, 1, 1, 1, 1, 0, 0, 0, 0])]) w (qX10 S0 o w) zNo := by
  refine zA_intro ⟨plainFor_of_name (by decide +kernel), Or.inl (by decide +kernel)⟩ rfl (Nat.le_of_ble_eq_true rfl) ?_
  show zA l mX10_init true 3 5 246 (qX10 S0 o w) zNo 0 [zR o] [] (S0 ++ [.inr (9, [1, 1, 1, 1, 1, 0, 0, 0, 0])]) w
  refine zA_aload_n dX10_init_0 rfl ?_
  show zA l mX10_init true 3 5 246 (qX10 S0 o w) zNo 1 [zR o] [zR o] (S0 ++ [.inr (9, [1, 1, 1, 1, 1, 0, 0, 0, 0])]) w
  refine zN_objInit dX10_init_1 koX10_3 zin_oi zin_oc (by simp) ?_
  show zA l mX10_init true 3 5 246 (qX10 S0 o w) zNo 4 [zR o] [] (S0 ++ [.inr (9, [1, 1, 1, 1, 1, 0, 0, 0, 0])]) w
  refine zA_aload_n dX10_init_4 rfl ?_
  show zA l mX10_init true 3 5 246 (qX10 S0 o w) zNo 5 [zR o] [zR o] (S0 ++ [.inr (9, [1, 1, 1, 1, 1, 0, 0, 0, 0])]) w
  refine zA_bipush dX10_init_5 rfl ?_
  show zA l mX10_init true 3 5 246 (qX10 S0 o w) zNo 7 [zR o] [zI 12, zR o] (S0 ++ [.inr (9, [1, 1, 1, 1, 1, 0, 0, 0, 0])]) w
  refine zM_newa (t := 0) (n := 12) (k := 1) (bc2 := 4) (bs2 := 234) (lst2 := [.inr (9, [1, 1, 1, 1, 1, 0, 0, 0, 0]), .inl (0, 12)]) dX10_init_7 (Or.inl ⟨rfl, rfl⟩) zin_int rfl (by decide) ho rfl rfl (by omega) (fun x => hz _ _ (by omega) (by omega)) ⟨rfl, rfl⟩ ?_
  show zA l mX10_init true 3 4 234 (qX10 S0 o w) zNo 9 [zR o] [zR (o + 1), zR o] (S0 ++ [.inr (9, [1, 1, 1, 1, 1, 0, 0, 0, 0]), .inl (0, 12)]) w
  refine zM_putFR (lst2 := [.inr (9, [o + 1 + 2, 1, 1, 1, 1, 0, 0, 0, 0]), .inl (0, 12)]) dX10_init_9 fX10_9 rfl zclX10.1 ho rfl (Nat.le_of_ble_eq_true rfl) ⟨fun _ => rfl, fun _ => rfl⟩ rfl ?_
  show zA l mX10_init true 3 4 234 (qX10 S0 o w) zNo 12 [zR o] [] (S0 ++ [.inr (9, [o + 1 + 2, 1, 1, 1, 1, 0, 0, 0, 0]), .inl (0, 12)]) w
  refine zA_aload_n dX10_init_12 rfl ?_
  show zA l mX10_init true 3 4 234 (qX10 S0 o w) zNo 13 [zR o] [zR o] (S0 ++ [.inr (9, [o + 1 + 2, 1, 1, 1, 1, 0, 0, 0, 0]), .inl (0, 12)]) w
  refine zA_sipush dX10_init_13 rfl ?_
  show zA l mX10_init true 3 4 234 (qX10 S0 o w) zNo 16 [zR o] [zI 144, zR o] (S0 ++ [.inr (9, [o + 1 + 2, 1, 1, 1, 1, 0, 0, 0, 0]), .inl (0, 12)]) w
  refine zM_newa (t := 0) (n := 144) (k := 2) (bc2 := 3) (bs2 := 90) (lst2 := [.inr (9, [o + 1 + 2, 1, 1, 1, 1, 0, 0, 0, 0]), .inl (0, 12), .inl (0, 144)]) dX10_init_16 (Or.inl ⟨rfl, rfl⟩) zin_int rfl (by decide) ho rfl rfl (by omega) (fun x => hz _ _ (by omega) (by omega)) ⟨rfl, rfl⟩ ?_
  show zA l mX10_init true 3 3 90 (qX10 S0 o w) zNo 18 [zR o] [zR (o + 2), zR o] (S0 ++ [.inr (9, [o + 1 + 2, 1, 1, 1, 1, 0, 0, 0, 0]), .inl (0, 12), .inl (0, 144)]) w
  refine zM_putFR (lst2 := [.inr (9, [o + 1 + 2, o + 2 + 2, 1, 1, 1, 0, 0, 0, 0]), .inl (0, 12), .inl (0, 144)]) dX10_init_18 fX10_15 rfl zclX10.1 ho rfl (Nat.le_of_ble_eq_true rfl) ⟨fun _ => rfl, fun _ => rfl⟩ rfl ?_
  show zA l mX10_init true 3 3 90 (qX10 S0 o w) zNo 21 [zR o] [] (S0 ++ [.inr (9, [o + 1 + 2, o + 2 + 2, 1, 1, 1, 0, 0, 0, 0]), .inl (0, 12), .inl (0, 144)]) w
  refine zA_aload_n dX10_init_21 rfl ?_
  show zA l mX10_init true 3 3 90 (qX10 S0 o w) zNo 22 [zR o] [zR o] (S0 ++ [.inr (9, [o + 1 + 2, o + 2 + 2, 1, 1, 1, 0, 0, 0, 0]), .inl (0, 12), .inl (0, 144)]) w
  refine zA_bipush dX10_init_22 rfl ?_
  show zA l mX10_init true 3 3 90 (qX10 S0 o w) zNo 24 [zR o] [zI 30, zR o] (S0 ++ [.inr (9, [o + 1 + 2, o + 2 + 2, 1, 1, 1, 0, 0, 0, 0]), .inl (0, 12), .inl (0, 144)]) w
  refine zM_newa (t := 0) (n := 30) (k := 3) (bc2 := 2) (bs2 := 60) (lst2 := [.inr (9, [o + 1 + 2, o + 2 + 2, 1, 1, 1, 0, 0, 0, 0]), .inl (0, 12), .inl (0, 144), .inl (0, 30)]) dX10_init_24 (Or.inl ⟨rfl, rfl⟩) zin_int rfl (by decide) ho rfl rfl (by omega) (fun x => hz _ _ (by omega) (by omega)) ⟨rfl, rfl⟩ ?_
  show zA l mX10_init true 3 2 60 (qX10 S0 o w) zNo 26 [zR o] [zR (o + 3), zR o] (S0 ++ [.inr (9, [o + 1 + 2, o + 2 + 2, 1, 1, 1, 0, 0, 0, 0]), .inl (0, 12), .inl (0, 144), .inl (0, 30)]) w
  refine zM_putFR (lst2 := [.inr (9, [o + 1 + 2, o + 2 + 2, o + 3 + 2, 1, 1, 0, 0, 0, 0]), .inl (0, 12), .inl (0, 144), .inl (0, 30)]) dX10_init_26 fX10_18 rfl zclX10.1 ho rfl (Nat.le_of_ble_eq_true rfl) ⟨fun _ => rfl, fun _ => rfl⟩ rfl ?_
  show zA l mX10_init true 3 2 60 (qX10 S0 o w) zNo 29 [zR o] [] (S0 ++ [.inr (9, [o + 1 + 2, o + 2 + 2, o + 3 + 2, 1, 1, 0, 0, 0, 0]), .inl (0, 12), .inl (0, 144), .inl (0, 30)]) w
  refine zA_aload_n dX10_init_29 rfl ?_
  show zA l mX10_init true 3 2 60 (qX10 S0 o w) zNo 30 [zR o] [zR o] (S0 ++ [.inr (9, [o + 1 + 2, o + 2 + 2, o + 3 + 2, 1, 1, 0, 0, 0, 0]), .inl (0, 12), .inl (0, 144), .inl (0, 30)]) w
  refine zA_bipush dX10_init_30 rfl ?_
  show zA l mX10_init true 3 2 60 (qX10 S0 o w) zNo 32 [zR o] [zI 48, zR o] (S0 ++ [.inr (9, [o + 1 + 2, o + 2 + 2, o + 3 + 2, 1, 1, 0, 0, 0, 0]), .inl (0, 12), .inl (0, 144), .inl (0, 30)]) w
  refine zM_newa (t := 0) (n := 48) (k := 4) (bc2 := 1) (bs2 := 12) (lst2 := [.inr (9, [o + 1 + 2, o + 2 + 2, o + 3 + 2, 1, 1, 0, 0, 0, 0]), .inl (0, 12), .inl (0, 144), .inl (0, 30), .inl (0, 48)]) dX10_init_32 (Or.inl ⟨rfl, rfl⟩) zin_int rfl (by decide) ho rfl rfl (by omega) (fun x => hz _ _ (by omega) (by omega)) ⟨rfl, rfl⟩ ?_
  show zA l mX10_init true 3 1 12 (qX10 S0 o w) zNo 34 [zR o] [zR (o + 4), zR o] (S0 ++ [.inr (9, [o + 1 + 2, o + 2 + 2, o + 3 + 2, 1, 1, 0, 0, 0, 0]), .inl (0, 12), .inl (0, 144), .inl (0, 30), .inl (0, 48)]) w
  refine zM_putFR (lst2 := [.inr (9, [o + 1 + 2, o + 2 + 2, o + 3 + 2, o + 4 + 2, 1, 0, 0, 0, 0]), .inl (0, 12), .inl (0, 144), .inl (0, 30), .inl (0, 48)]) dX10_init_34 fX10_21 rfl zclX10.1 ho rfl (Nat.le_of_ble_eq_true rfl) ⟨fun _ => rfl, fun _ => rfl⟩ rfl ?_
  show zA l mX10_init true 3 1 12 (qX10 S0 o w) zNo 37 [zR o] [] (S0 ++ [.inr (9, [o + 1 + 2, o + 2 + 2, o + 3 + 2, o + 4 + 2, 1, 0, 0, 0, 0]), .inl (0, 12), .inl (0, 144), .inl (0, 30), .inl (0, 48)]) w
  refine zA_aload_n dX10_init_37 rfl ?_
  show zA l mX10_init true 3 1 12 (qX10 S0 o w) zNo 38 [zR o] [zR o] (S0 ++ [.inr (9, [o + 1 + 2, o + 2 + 2, o + 3 + 2, o + 4 + 2, 1, 0, 0, 0, 0]), .inl (0, 12), .inl (0, 144), .inl (0, 30), .inl (0, 48)]) w
  refine zA_bipush dX10_init_38 rfl ?_
  show zA l mX10_init true 3 1 12 (qX10 S0 o w) zNo 40 [zR o] [zI 12, zR o] (S0 ++ [.inr (9, [o + 1 + 2, o + 2 + 2, o + 3 + 2, o + 4 + 2, 1, 0, 0, 0, 0]), .inl (0, 12), .inl (0, 144), .inl (0, 30), .inl (0, 48)]) w
  refine zM_newa (t := 0) (n := 12) (k := 5) (bc2 := 0) (bs2 := 0) (lst2 := [.inr (9, [o + 1 + 2, o + 2 + 2, o + 3 + 2, o + 4 + 2, 1, 0, 0, 0, 0]), .inl (0, 12), .inl (0, 144), .inl (0, 30), .inl (0, 48), .inl (0, 12)]) dX10_init_40 (Or.inl ⟨rfl, rfl⟩) zin_int rfl (by decide) ho rfl rfl (by omega) (fun x => hz _ _ (by omega) (by omega)) ⟨rfl, rfl⟩ ?_
  show zA l mX10_init true 3 0 0 (qX10 S0 o w) zNo 42 [zR o] [zR (o + 5), zR o] (S0 ++ [.inr (9, [o + 1 + 2, o + 2 + 2, o + 3 + 2, o + 4 + 2, 1, 0, 0, 0, 0]), .inl (0, 12), .inl (0, 144), .inl (0, 30), .inl (0, 48), .inl (0, 12)]) w
  refine zM_putFR (lst2 := [.inr (9, [o + 1 + 2, o + 2 + 2, o + 3 + 2, o + 4 + 2, o + 5 + 2, 0, 0, 0, 0]), .inl (0, 12), .inl (0, 144), .inl (0, 30), .inl (0, 48), .inl (0, 12)]) dX10_init_42 fX10_24 rfl zclX10.1 ho rfl (Nat.le_of_ble_eq_true rfl) ⟨fun _ => rfl, fun _ => rfl⟩ rfl ?_
  show zA l mX10_init true 3 0 0 (qX10 S0 o w) zNo 45 [zR o] [] (S0 ++ [.inr (9, [o + 1 + 2, o + 2 + 2, o + 3 + 2, o + 4 + 2, o + 5 + 2, 0, 0, 0, 0]), .inl (0, 12), .inl (0, 144), .inl (0, 30), .inl (0, 48), .inl (0, 12)]) w
  refine zA_aload_n dX10_init_45 rfl ?_
  show zA l mX10_init true 3 0 0 (qX10 S0 o w) zNo 46 [zR o] [zR o] (S0 ++ [.inr (9, [o + 1 + 2, o + 2 + 2, o + 3 + 2, o + 4 + 2, o + 5 + 2, 0, 0, 0, 0]), .inl (0, 12), .inl (0, 144), .inl (0, 30), .inl (0, 48), .inl (0, 12)]) w
  refine zA_iconst dX10_init_46 ?_
  show zA l mX10_init true 3 0 0 (qX10 S0 o w) zNo 47 [zR o] [zI 0, zR o] (S0 ++ [.inr (9, [o + 1 + 2, o + 2 + 2, o + 3 + 2, o + 4 + 2, o + 5 + 2, 0, 0, 0, 0]), .inl (0, 12), .inl (0, 144), .inl (0, 30), .inl (0, 48), .inl (0, 12)]) w
  refine zM_put0 dX10_init_47 fX10_27 ho rfl rfl ⟨rfl, rfl⟩ (hz _ _ (by omega) (by omega)) ?_
  show zA l mX10_init true 3 0 0 (qX10 S0 o w) zNo 50 [zR o] [] (S0 ++ [.inr (9, [o + 1 + 2, o + 2 + 2, o + 3 + 2, o + 4 + 2, o + 5 + 2, 0, 0, 0, 0]), .inl (0, 12), .inl (0, 144), .inl (0, 30), .inl (0, 48), .inl (0, 12)]) w
  refine zA_aload_n dX10_init_50 rfl ?_
  show zA l mX10_init true 3 0 0 (qX10 S0 o w) zNo 51 [zR o] [zR o] (S0 ++ [.inr (9, [o + 1 + 2, o + 2 + 2, o + 3 + 2, o + 4 + 2, o + 5 + 2, 0, 0, 0, 0]), .inl (0, 12), .inl (0, 144), .inl (0, 30), .inl (0, 48), .inl (0, 12)]) w
  refine zA_iconst dX10_init_51 ?_
  show zA l mX10_init true 3 0 0 (qX10 S0 o w) zNo 52 [zR o] [zI 0, zR o] (S0 ++ [.inr (9, [o + 1 + 2, o + 2 + 2, o + 3 + 2, o + 4 + 2, o + 5 + 2, 0, 0, 0, 0]), .inl (0, 12), .inl (0, 144), .inl (0, 30), .inl (0, 48), .inl (0, 12)]) w
  refine zM_put0 dX10_init_52 fX10_31 ho rfl rfl ⟨rfl, rfl⟩ (hz _ _ (by omega) (by omega)) ?_
  show zA l mX10_init true 3 0 0 (qX10 S0 o w) zNo 55 [zR o] [] (S0 ++ [.inr (9, [o + 1 + 2, o + 2 + 2, o + 3 + 2, o + 4 + 2, o + 5 + 2, 0, 0, 0, 0]), .inl (0, 12), .inl (0, 144), .inl (0, 30), .inl (0, 48), .inl (0, 12)]) w
  refine zA_aload_n dX10_init_55 rfl ?_
  show zA l mX10_init true 3 0 0 (qX10 S0 o w) zNo 56 [zR o] [zR o] (S0 ++ [.inr (9, [o + 1 + 2, o + 2 + 2, o + 3 + 2, o + 4 + 2, o + 5 + 2, 0, 0, 0, 0]), .inl (0, 12), .inl (0, 144), .inl (0, 30), .inl (0, 48), .inl (0, 12)]) w
  refine zA_iconst dX10_init_56 ?_
  show zA l mX10_init true 3 0 0 (qX10 S0 o w) zNo 57 [zR o] [zI 0, zR o] (S0 ++ [.inr (9, [o + 1 + 2, o + 2 + 2, o + 3 + 2, o + 4 + 2, o + 5 + 2, 0, 0, 0, 0]), .inl (0, 12), .inl (0, 144), .inl (0, 30), .inl (0, 48), .inl (0, 12)]) w
  refine zM_put0 dX10_init_57 fX10_34 ho rfl rfl ⟨rfl, rfl⟩ (hz _ _ (by omega) (by omega)) ?_
  show zA l mX10_init true 3 0 0 (qX10 S0 o w) zNo 60 [zR o] [] (S0 ++ [.inr (9, [o + 1 + 2, o + 2 + 2, o + 3 + 2, o + 4 + 2, o + 5 + 2, 0, 0, 0, 0]), .inl (0, 12), .inl (0, 144), .inl (0, 30), .inl (0, 48), .inl (0, 12)]) w
  refine zA_aload_n dX10_init_60 rfl ?_
  show zA l mX10_init true 3 0 0 (qX10 S0 o w) zNo 61 [zR o] [zR o] (S0 ++ [.inr (9, [o + 1 + 2, o + 2 + 2, o + 3 + 2, o + 4 + 2, o + 5 + 2, 0, 0, 0, 0]), .inl (0, 12), .inl (0, 144), .inl (0, 30), .inl (0, 48), .inl (0, 12)]) w
  refine zA_iconst dX10_init_61 ?_
  show zA l mX10_init true 3 0 0 (qX10 S0 o w) zNo 62 [zR o] [zI 0, zR o] (S0 ++ [.inr (9, [o + 1 + 2, o + 2 + 2, o + 3 + 2, o + 4 + 2, o + 5 + 2, 0, 0, 0, 0]), .inl (0, 12), .inl (0, 144), .inl (0, 30), .inl (0, 48), .inl (0, 12)]) w
  refine zM_put0 dX10_init_62 fX10_37 ho rfl rfl ⟨rfl, rfl⟩ (hz _ _ (by omega) (by omega)) ?_
  show zA l mX10_init true 3 0 0 (qX10 S0 o w) zNo 65 [zR o] [] (S0 ++ [.inr (9, [o + 1 + 2, o + 2 + 2, o + 3 + 2, o + 4 + 2, o + 5 + 2, 0, 0, 0, 0]), .inl (0, 12), .inl (0, 144), .inl (0, 30), .inl (0, 48), .inl (0, 12)]) w
  refine zA_aload_n dX10_init_65 rfl ?_
  show zA l mX10_init true 3 0 0 (qX10 S0 o w) zNo 66 [zR o] [zR o] (S0 ++ [.inr (9, [o + 1 + 2, o + 2 + 2, o + 3 + 2, o + 4 + 2, o + 5 + 2, 0, 0, 0, 0]), .inl (0, 12), .inl (0, 144), .inl (0, 30), .inl (0, 48), .inl (0, 12)]) w
  refine zA_cV (st := []) dX10_init_66 vX10_clear kX10_40 (n_X10_cl (w := w) ho) (by decide) (zl0 (j := 0) ho rfl) rfl rfl (Nat.le_of_ble_eq_true rfl) rfl (fun v1 S6 w1 h1 => ?_)
  obtain ⟨rfl, rfl, hf, hg0, hg1, hg2, hp0, hp1, hp2, hp3⟩ := h1
  have hfo : ∀ (c : Nat) (x : Int), c ≠ o + 2 → c ≠ o + 3 → c ≠ o + 5 → w1 c x = w c x := fun c x a0 a1 a2 => by
    by_cases q : c = o
    · subst q
      by_cases q0 : x = 5
      · rw [q0, hp0]; exact (hz _ _ (by omega) (by omega)).symm
      by_cases q1 : x = 6
      · rw [q1, hp1]; exact (hz _ _ (by omega) (by omega)).symm
      by_cases q2 : x = 7
      · rw [q2, hp2]; exact (hz _ _ (by omega) (by omega)).symm
      by_cases q3 : x = 8
      · rw [q3, hp3]; exact (hz _ _ (by omega) (by omega)).symm
      exact hf _ x a0 a1 a2 (Or.inr (by omega))
    · exact hf c x a0 a1 a2 (Or.inl q)
  show zA l mX10_init true 3 0 0 (qX10 S0 o w) zNo 69 [zR o] [] (S0 ++ [.inr (9, [o + 1 + 2, o + 2 + 2, o + 3 + 2, o + 4 + 2, o + 5 + 2, 0, 0, 0, 0]), .inl (0, 12), .inl (0, 144), .inl (0, 30), .inl (0, 48), .inl (0, 12)]) w1
  exact zA_vret dX10_init_69 rfl ⟨rfl, rfl, hfo, hg0, hg1, hg2⟩
def qX6 (S0 : zS) (o : Nat) (w : zW) : Option Value → zS → zW → Prop := fun v' S' w' => v' = none ∧ S' = S0 ++ [.inr (5, [o + 1 + 2, o + 2 + 2, o + 3 + 2, o + 4 + 2, o + 5 + 2, o + 6 + 2, o + 7 + 2, o + 8 + 2, 0, o + 9 + 2, o + 10 + 2, o + 11 + 2, 0, 0, 0, 0, 0]), .inl (0, 248), .inl (0, 248), .inl (0, 256), .inl (0, 2048), .inl (0, 2048), .inl (0, 8), .inl (0, 4), .inl (0, 8), .inl (0, 8), .inl (0, 8), .inl (0, 8)] ∧ w' = up w o 13 (-1)
theorem jX6 : zMI mX6_init 0 := ⟨iX6_init, rfl, rfl, rfl, by decide, by decide +kernel, by decide +kernel, by decide +kernel⟩
set_option maxRecDepth 100000 in
set_option maxHeartbeats 4000000 in
theorem n_X6 {l : Launch} {S0 : zS} {w : zW} {o : Nat} (ho : S0.length = o) (hl : o < 900) (hz : ∀ (c : Nat) (x : Int), o ≤ c → c < o + 12 → w c x = 0) : zSp l mX6_init true 2 11 4892 [zR o] (S0 ++ [.inr (5, [1, 1, 1, 1, 1, 1, 1, 1, 0, 1, 1, 1, 0, 0, 0, 0, 0])]) w (qX6 S0 o w) zNo := by
  refine zA_intro ⟨plainFor_of_name (by decide +kernel), Or.inl (by decide +kernel)⟩ rfl (Nat.le_of_ble_eq_true rfl) ?_
  show zA l mX6_init true 2 11 4892 (qX6 S0 o w) zNo 0 [zR o] [] (S0 ++ [.inr (5, [1, 1, 1, 1, 1, 1, 1, 1, 0, 1, 1, 1, 0, 0, 0, 0, 0])]) w
  refine zA_aload_n dX6_init_0 rfl ?_
  show zA l mX6_init true 2 11 4892 (qX6 S0 o w) zNo 1 [zR o] [zR o] (S0 ++ [.inr (5, [1, 1, 1, 1, 1, 1, 1, 1, 0, 1, 1, 1, 0, 0, 0, 0, 0])]) w
  refine zN_objInit dX6_init_1 koX6_3 zin_oi zin_oc (by simp) ?_
  show zA l mX6_init true 2 11 4892 (qX6 S0 o w) zNo 4 [zR o] [] (S0 ++ [.inr (5, [1, 1, 1, 1, 1, 1, 1, 1, 0, 1, 1, 1, 0, 0, 0, 0, 0])]) w
  refine zA_aload_n dX6_init_4 rfl ?_
  show zA l mX6_init true 2 11 4892 (qX6 S0 o w) zNo 5 [zR o] [zR o] (S0 ++ [.inr (5, [1, 1, 1, 1, 1, 1, 1, 1, 0, 1, 1, 1, 0, 0, 0, 0, 0])]) w
  refine zA_sipush dX6_init_5 rfl ?_
  show zA l mX6_init true 2 11 4892 (qX6 S0 o w) zNo 8 [zR o] [zI 248, zR o] (S0 ++ [.inr (5, [1, 1, 1, 1, 1, 1, 1, 1, 0, 1, 1, 1, 0, 0, 0, 0, 0])]) w
  refine zM_newa (t := 0) (n := 248) (k := 1) (bc2 := 10) (bs2 := 4644) (lst2 := [.inr (5, [1, 1, 1, 1, 1, 1, 1, 1, 0, 1, 1, 1, 0, 0, 0, 0, 0]), .inl (0, 248)]) dX6_init_8 (Or.inl ⟨rfl, rfl⟩) zin_int rfl (by decide) ho rfl rfl (by omega) (fun x => hz _ _ (by omega) (by omega)) ⟨rfl, rfl⟩ ?_
  show zA l mX6_init true 2 10 4644 (qX6 S0 o w) zNo 10 [zR o] [zR (o + 1), zR o] (S0 ++ [.inr (5, [1, 1, 1, 1, 1, 1, 1, 1, 0, 1, 1, 1, 0, 0, 0, 0, 0]), .inl (0, 248)]) w
  refine zM_putFR (lst2 := [.inr (5, [o + 1 + 2, 1, 1, 1, 1, 1, 1, 1, 0, 1, 1, 1, 0, 0, 0, 0, 0]), .inl (0, 248)]) dX6_init_10 fX6_11 rfl zclX6.1 ho rfl (Nat.le_of_ble_eq_true rfl) ⟨fun _ => rfl, fun _ => rfl⟩ rfl ?_
  show zA l mX6_init true 2 10 4644 (qX6 S0 o w) zNo 13 [zR o] [] (S0 ++ [.inr (5, [o + 1 + 2, 1, 1, 1, 1, 1, 1, 1, 0, 1, 1, 1, 0, 0, 0, 0, 0]), .inl (0, 248)]) w
  refine zA_aload_n dX6_init_13 rfl ?_
  show zA l mX6_init true 2 10 4644 (qX6 S0 o w) zNo 14 [zR o] [zR o] (S0 ++ [.inr (5, [o + 1 + 2, 1, 1, 1, 1, 1, 1, 1, 0, 1, 1, 1, 0, 0, 0, 0, 0]), .inl (0, 248)]) w
  refine zA_sipush dX6_init_14 rfl ?_
  show zA l mX6_init true 2 10 4644 (qX6 S0 o w) zNo 17 [zR o] [zI 248, zR o] (S0 ++ [.inr (5, [o + 1 + 2, 1, 1, 1, 1, 1, 1, 1, 0, 1, 1, 1, 0, 0, 0, 0, 0]), .inl (0, 248)]) w
  refine zM_newa (t := 0) (n := 248) (k := 2) (bc2 := 9) (bs2 := 4396) (lst2 := [.inr (5, [o + 1 + 2, 1, 1, 1, 1, 1, 1, 1, 0, 1, 1, 1, 0, 0, 0, 0, 0]), .inl (0, 248), .inl (0, 248)]) dX6_init_17 (Or.inl ⟨rfl, rfl⟩) zin_int rfl (by decide) ho rfl rfl (by omega) (fun x => hz _ _ (by omega) (by omega)) ⟨rfl, rfl⟩ ?_
  show zA l mX6_init true 2 9 4396 (qX6 S0 o w) zNo 19 [zR o] [zR (o + 2), zR o] (S0 ++ [.inr (5, [o + 1 + 2, 1, 1, 1, 1, 1, 1, 1, 0, 1, 1, 1, 0, 0, 0, 0, 0]), .inl (0, 248), .inl (0, 248)]) w
  refine zM_putFR (lst2 := [.inr (5, [o + 1 + 2, o + 2 + 2, 1, 1, 1, 1, 1, 1, 0, 1, 1, 1, 0, 0, 0, 0, 0]), .inl (0, 248), .inl (0, 248)]) dX6_init_19 fX6_15 rfl zclX6.1 ho rfl (Nat.le_of_ble_eq_true rfl) ⟨fun _ => rfl, fun _ => rfl⟩ rfl ?_
  show zA l mX6_init true 2 9 4396 (qX6 S0 o w) zNo 22 [zR o] [] (S0 ++ [.inr (5, [o + 1 + 2, o + 2 + 2, 1, 1, 1, 1, 1, 1, 0, 1, 1, 1, 0, 0, 0, 0, 0]), .inl (0, 248), .inl (0, 248)]) w
  refine zA_aload_n dX6_init_22 rfl ?_
  show zA l mX6_init true 2 9 4396 (qX6 S0 o w) zNo 23 [zR o] [zR o] (S0 ++ [.inr (5, [o + 1 + 2, o + 2 + 2, 1, 1, 1, 1, 1, 1, 0, 1, 1, 1, 0, 0, 0, 0, 0]), .inl (0, 248), .inl (0, 248)]) w
  refine zA_sipush dX6_init_23 rfl ?_
  show zA l mX6_init true 2 9 4396 (qX6 S0 o w) zNo 26 [zR o] [zI 256, zR o] (S0 ++ [.inr (5, [o + 1 + 2, o + 2 + 2, 1, 1, 1, 1, 1, 1, 0, 1, 1, 1, 0, 0, 0, 0, 0]), .inl (0, 248), .inl (0, 248)]) w
  refine zM_newa (t := 0) (n := 256) (k := 3) (bc2 := 8) (bs2 := 4140) (lst2 := [.inr (5, [o + 1 + 2, o + 2 + 2, 1, 1, 1, 1, 1, 1, 0, 1, 1, 1, 0, 0, 0, 0, 0]), .inl (0, 248), .inl (0, 248), .inl (0, 256)]) dX6_init_26 (Or.inl ⟨rfl, rfl⟩) zin_int rfl (by decide) ho rfl rfl (by omega) (fun x => hz _ _ (by omega) (by omega)) ⟨rfl, rfl⟩ ?_
  show zA l mX6_init true 2 8 4140 (qX6 S0 o w) zNo 28 [zR o] [zR (o + 3), zR o] (S0 ++ [.inr (5, [o + 1 + 2, o + 2 + 2, 1, 1, 1, 1, 1, 1, 0, 1, 1, 1, 0, 0, 0, 0, 0]), .inl (0, 248), .inl (0, 248), .inl (0, 256)]) w
  refine zM_putFR (lst2 := [.inr (5, [o + 1 + 2, o + 2 + 2, o + 3 + 2, 1, 1, 1, 1, 1, 0, 1, 1, 1, 0, 0, 0, 0, 0]), .inl (0, 248), .inl (0, 248), .inl (0, 256)]) dX6_init_28 fX6_18 rfl zclX6.1 ho rfl (Nat.le_of_ble_eq_true rfl) ⟨fun _ => rfl, fun _ => rfl⟩ rfl ?_
  show zA l mX6_init true 2 8 4140 (qX6 S0 o w) zNo 31 [zR o] [] (S0 ++ [.inr (5, [o + 1 + 2, o + 2 + 2, o + 3 + 2, 1, 1, 1, 1, 1, 0, 1, 1, 1, 0, 0, 0, 0, 0]), .inl (0, 248), .inl (0, 248), .inl (0, 256)]) w
  refine zA_aload_n dX6_init_31 rfl ?_
  show zA l mX6_init true 2 8 4140 (qX6 S0 o w) zNo 32 [zR o] [zR o] (S0 ++ [.inr (5, [o + 1 + 2, o + 2 + 2, o + 3 + 2, 1, 1, 1, 1, 1, 0, 1, 1, 1, 0, 0, 0, 0, 0]), .inl (0, 248), .inl (0, 248), .inl (0, 256)]) w
  refine zA_sipush dX6_init_32 rfl ?_
  show zA l mX6_init true 2 8 4140 (qX6 S0 o w) zNo 35 [zR o] [zI 2048, zR o] (S0 ++ [.inr (5, [o + 1 + 2, o + 2 + 2, o + 3 + 2, 1, 1, 1, 1, 1, 0, 1, 1, 1, 0, 0, 0, 0, 0]), .inl (0, 248), .inl (0, 248), .inl (0, 256)]) w
  refine zM_newa (t := 0) (n := 2048) (k := 4) (bc2 := 7) (bs2 := 2092) (lst2 := [.inr (5, [o + 1 + 2, o + 2 + 2, o + 3 + 2, 1, 1, 1, 1, 1, 0, 1, 1, 1, 0, 0, 0, 0, 0]), .inl (0, 248), .inl (0, 248), .inl (0, 256), .inl (0, 2048)]) dX6_init_35 (Or.inl ⟨rfl, rfl⟩) zin_int rfl (by decide) ho rfl rfl (by omega) (fun x => hz _ _ (by omega) (by omega)) ⟨rfl, rfl⟩ ?_
  show zA l mX6_init true 2 7 2092 (qX6 S0 o w) zNo 37 [zR o] [zR (o + 4), zR o] (S0 ++ [.inr (5, [o + 1 + 2, o + 2 + 2, o + 3 + 2, 1, 1, 1, 1, 1, 0, 1, 1, 1, 0, 0, 0, 0, 0]), .inl (0, 248), .inl (0, 248), .inl (0, 256), .inl (0, 2048)]) w
  refine zM_putFR (lst2 := [.inr (5, [o + 1 + 2, o + 2 + 2, o + 3 + 2, o + 4 + 2, 1, 1, 1, 1, 0, 1, 1, 1, 0, 0, 0, 0, 0]), .inl (0, 248), .inl (0, 248), .inl (0, 256), .inl (0, 2048)]) dX6_init_37 fX6_21 rfl zclX6.1 ho rfl (Nat.le_of_ble_eq_true rfl) ⟨fun _ => rfl, fun _ => rfl⟩ rfl ?_
  show zA l mX6_init true 2 7 2092 (qX6 S0 o w) zNo 40 [zR o] [] (S0 ++ [.inr (5, [o + 1 + 2, o + 2 + 2, o + 3 + 2, o + 4 + 2, 1, 1, 1, 1, 0, 1, 1, 1, 0, 0, 0, 0, 0]), .inl (0, 248), .inl (0, 248), .inl (0, 256), .inl (0, 2048)]) w
  refine zA_aload_n dX6_init_40 rfl ?_
  show zA l mX6_init true 2 7 2092 (qX6 S0 o w) zNo 41 [zR o] [zR o] (S0 ++ [.inr (5, [o + 1 + 2, o + 2 + 2, o + 3 + 2, o + 4 + 2, 1, 1, 1, 1, 0, 1, 1, 1, 0, 0, 0, 0, 0]), .inl (0, 248), .inl (0, 248), .inl (0, 256), .inl (0, 2048)]) w
  refine zA_sipush dX6_init_41 rfl ?_
  show zA l mX6_init true 2 7 2092 (qX6 S0 o w) zNo 44 [zR o] [zI 2048, zR o] (S0 ++ [.inr (5, [o + 1 + 2, o + 2 + 2, o + 3 + 2, o + 4 + 2, 1, 1, 1, 1, 0, 1, 1, 1, 0, 0, 0, 0, 0]), .inl (0, 248), .inl (0, 248), .inl (0, 256), .inl (0, 2048)]) w
  refine zM_newa (t := 0) (n := 2048) (k := 5) (bc2 := 6) (bs2 := 44) (lst2 := [.inr (5, [o + 1 + 2, o + 2 + 2, o + 3 + 2, o + 4 + 2, 1, 1, 1, 1, 0, 1, 1, 1, 0, 0, 0, 0, 0]), .inl (0, 248), .inl (0, 248), .inl (0, 256), .inl (0, 2048), .inl (0, 2048)]) dX6_init_44 (Or.inl ⟨rfl, rfl⟩) zin_int rfl (by decide) ho rfl rfl (by omega) (fun x => hz _ _ (by omega) (by omega)) ⟨rfl, rfl⟩ ?_
  show zA l mX6_init true 2 6 44 (qX6 S0 o w) zNo 46 [zR o] [zR (o + 5), zR o] (S0 ++ [.inr (5, [o + 1 + 2, o + 2 + 2, o + 3 + 2, o + 4 + 2, 1, 1, 1, 1, 0, 1, 1, 1, 0, 0, 0, 0, 0]), .inl (0, 248), .inl (0, 248), .inl (0, 256), .inl (0, 2048), .inl (0, 2048)]) w
  refine zM_putFR (lst2 := [.inr (5, [o + 1 + 2, o + 2 + 2, o + 3 + 2, o + 4 + 2, o + 5 + 2, 1, 1, 1, 0, 1, 1, 1, 0, 0, 0, 0, 0]), .inl (0, 248), .inl (0, 248), .inl (0, 256), .inl (0, 2048), .inl (0, 2048)]) dX6_init_46 fX6_24 rfl zclX6.1 ho rfl (Nat.le_of_ble_eq_true rfl) ⟨fun _ => rfl, fun _ => rfl⟩ rfl ?_
  show zA l mX6_init true 2 6 44 (qX6 S0 o w) zNo 49 [zR o] [] (S0 ++ [.inr (5, [o + 1 + 2, o + 2 + 2, o + 3 + 2, o + 4 + 2, o + 5 + 2, 1, 1, 1, 0, 1, 1, 1, 0, 0, 0, 0, 0]), .inl (0, 248), .inl (0, 248), .inl (0, 256), .inl (0, 2048), .inl (0, 2048)]) w
  refine zA_aload_n dX6_init_49 rfl ?_
  show zA l mX6_init true 2 6 44 (qX6 S0 o w) zNo 50 [zR o] [zR o] (S0 ++ [.inr (5, [o + 1 + 2, o + 2 + 2, o + 3 + 2, o + 4 + 2, o + 5 + 2, 1, 1, 1, 0, 1, 1, 1, 0, 0, 0, 0, 0]), .inl (0, 248), .inl (0, 248), .inl (0, 256), .inl (0, 2048), .inl (0, 2048)]) w
  refine zA_bipush dX6_init_50 rfl ?_
  show zA l mX6_init true 2 6 44 (qX6 S0 o w) zNo 52 [zR o] [zI 8, zR o] (S0 ++ [.inr (5, [o + 1 + 2, o + 2 + 2, o + 3 + 2, o + 4 + 2, o + 5 + 2, 1, 1, 1, 0, 1, 1, 1, 0, 0, 0, 0, 0]), .inl (0, 248), .inl (0, 248), .inl (0, 256), .inl (0, 2048), .inl (0, 2048)]) w
  refine zM_newa (t := 0) (n := 8) (k := 6) (bc2 := 5) (bs2 := 36) (lst2 := [.inr (5, [o + 1 + 2, o + 2 + 2, o + 3 + 2, o + 4 + 2, o + 5 + 2, 1, 1, 1, 0, 1, 1, 1, 0, 0, 0, 0, 0]), .inl (0, 248), .inl (0, 248), .inl (0, 256), .inl (0, 2048), .inl (0, 2048), .inl (0, 8)]) dX6_init_52 (Or.inl ⟨rfl, rfl⟩) zin_int rfl (by decide) ho rfl rfl (by omega) (fun x => hz _ _ (by omega) (by omega)) ⟨rfl, rfl⟩ ?_
  show zA l mX6_init true 2 5 36 (qX6 S0 o w) zNo 54 [zR o] [zR (o + 6), zR o] (S0 ++ [.inr (5, [o + 1 + 2, o + 2 + 2, o + 3 + 2, o + 4 + 2, o + 5 + 2, 1, 1, 1, 0, 1, 1, 1, 0, 0, 0, 0, 0]), .inl (0, 248), .inl (0, 248), .inl (0, 256), .inl (0, 2048), .inl (0, 2048), .inl (0, 8)]) w
  refine zM_putFR (lst2 := [.inr (5, [o + 1 + 2, o + 2 + 2, o + 3 + 2, o + 4 + 2, o + 5 + 2, o + 6 + 2, 1, 1, 0, 1, 1, 1, 0, 0, 0, 0, 0]), .inl (0, 248), .inl (0, 248), .inl (0, 256), .inl (0, 2048), .inl (0, 2048), .inl (0, 8)]) dX6_init_54 fX6_27 rfl zclX6.1 ho rfl (Nat.le_of_ble_eq_true rfl) ⟨fun _ => rfl, fun _ => rfl⟩ rfl ?_
  show zA l mX6_init true 2 5 36 (qX6 S0 o w) zNo 57 [zR o] [] (S0 ++ [.inr (5, [o + 1 + 2, o + 2 + 2, o + 3 + 2, o + 4 + 2, o + 5 + 2, o + 6 + 2, 1, 1, 0, 1, 1, 1, 0, 0, 0, 0, 0]), .inl (0, 248), .inl (0, 248), .inl (0, 256), .inl (0, 2048), .inl (0, 2048), .inl (0, 8)]) w
  refine zA_aload_n dX6_init_57 rfl ?_
  show zA l mX6_init true 2 5 36 (qX6 S0 o w) zNo 58 [zR o] [zR o] (S0 ++ [.inr (5, [o + 1 + 2, o + 2 + 2, o + 3 + 2, o + 4 + 2, o + 5 + 2, o + 6 + 2, 1, 1, 0, 1, 1, 1, 0, 0, 0, 0, 0]), .inl (0, 248), .inl (0, 248), .inl (0, 256), .inl (0, 2048), .inl (0, 2048), .inl (0, 8)]) w
  refine zA_iconst dX6_init_58 ?_
  show zA l mX6_init true 2 5 36 (qX6 S0 o w) zNo 59 [zR o] [zI 4, zR o] (S0 ++ [.inr (5, [o + 1 + 2, o + 2 + 2, o + 3 + 2, o + 4 + 2, o + 5 + 2, o + 6 + 2, 1, 1, 0, 1, 1, 1, 0, 0, 0, 0, 0]), .inl (0, 248), .inl (0, 248), .inl (0, 256), .inl (0, 2048), .inl (0, 2048), .inl (0, 8)]) w
  refine zM_newa (t := 0) (n := 4) (k := 7) (bc2 := 4) (bs2 := 32) (lst2 := [.inr (5, [o + 1 + 2, o + 2 + 2, o + 3 + 2, o + 4 + 2, o + 5 + 2, o + 6 + 2, 1, 1, 0, 1, 1, 1, 0, 0, 0, 0, 0]), .inl (0, 248), .inl (0, 248), .inl (0, 256), .inl (0, 2048), .inl (0, 2048), .inl (0, 8), .inl (0, 4)]) dX6_init_59 (Or.inl ⟨rfl, rfl⟩) zin_int rfl (by decide) ho rfl rfl (by omega) (fun x => hz _ _ (by omega) (by omega)) ⟨rfl, rfl⟩ ?_
  show zA l mX6_init true 2 4 32 (qX6 S0 o w) zNo 61 [zR o] [zR (o + 7), zR o] (S0 ++ [.inr (5, [o + 1 + 2, o + 2 + 2, o + 3 + 2, o + 4 + 2, o + 5 + 2, o + 6 + 2, 1, 1, 0, 1, 1, 1, 0, 0, 0, 0, 0]), .inl (0, 248), .inl (0, 248), .inl (0, 256), .inl (0, 2048), .inl (0, 2048), .inl (0, 8), .inl (0, 4)]) w
  refine zM_putFR (lst2 := [.inr (5, [o + 1 + 2, o + 2 + 2, o + 3 + 2, o + 4 + 2, o + 5 + 2, o + 6 + 2, o + 7 + 2, 1, 0, 1, 1, 1, 0, 0, 0, 0, 0]), .inl (0, 248), .inl (0, 248), .inl (0, 256), .inl (0, 2048), .inl (0, 2048), .inl (0, 8), .inl (0, 4)]) dX6_init_61 fX6_30 rfl zclX6.1 ho rfl (Nat.le_of_ble_eq_true rfl) ⟨fun _ => rfl, fun _ => rfl⟩ rfl ?_
  show zA l mX6_init true 2 4 32 (qX6 S0 o w) zNo 64 [zR o] [] (S0 ++ [.inr (5, [o + 1 + 2, o + 2 + 2, o + 3 + 2, o + 4 + 2, o + 5 + 2, o + 6 + 2, o + 7 + 2, 1, 0, 1, 1, 1, 0, 0, 0, 0, 0]), .inl (0, 248), .inl (0, 248), .inl (0, 256), .inl (0, 2048), .inl (0, 2048), .inl (0, 8), .inl (0, 4)]) w
  refine zA_aload_n dX6_init_64 rfl ?_
  show zA l mX6_init true 2 4 32 (qX6 S0 o w) zNo 65 [zR o] [zR o] (S0 ++ [.inr (5, [o + 1 + 2, o + 2 + 2, o + 3 + 2, o + 4 + 2, o + 5 + 2, o + 6 + 2, o + 7 + 2, 1, 0, 1, 1, 1, 0, 0, 0, 0, 0]), .inl (0, 248), .inl (0, 248), .inl (0, 256), .inl (0, 2048), .inl (0, 2048), .inl (0, 8), .inl (0, 4)]) w
  refine zA_bipush dX6_init_65 rfl ?_
  show zA l mX6_init true 2 4 32 (qX6 S0 o w) zNo 67 [zR o] [zI 8, zR o] (S0 ++ [.inr (5, [o + 1 + 2, o + 2 + 2, o + 3 + 2, o + 4 + 2, o + 5 + 2, o + 6 + 2, o + 7 + 2, 1, 0, 1, 1, 1, 0, 0, 0, 0, 0]), .inl (0, 248), .inl (0, 248), .inl (0, 256), .inl (0, 2048), .inl (0, 2048), .inl (0, 8), .inl (0, 4)]) w
  refine zM_newa (t := 0) (n := 8) (k := 8) (bc2 := 3) (bs2 := 24) (lst2 := [.inr (5, [o + 1 + 2, o + 2 + 2, o + 3 + 2, o + 4 + 2, o + 5 + 2, o + 6 + 2, o + 7 + 2, 1, 0, 1, 1, 1, 0, 0, 0, 0, 0]), .inl (0, 248), .inl (0, 248), .inl (0, 256), .inl (0, 2048), .inl (0, 2048), .inl (0, 8), .inl (0, 4), .inl (0, 8)]) dX6_init_67 (Or.inl ⟨rfl, rfl⟩) zin_int rfl (by decide) ho rfl rfl (by omega) (fun x => hz _ _ (by omega) (by omega)) ⟨rfl, rfl⟩ ?_
  show zA l mX6_init true 2 3 24 (qX6 S0 o w) zNo 69 [zR o] [zR (o + 8), zR o] (S0 ++ [.inr (5, [o + 1 + 2, o + 2 + 2, o + 3 + 2, o + 4 + 2, o + 5 + 2, o + 6 + 2, o + 7 + 2, 1, 0, 1, 1, 1, 0, 0, 0, 0, 0]), .inl (0, 248), .inl (0, 248), .inl (0, 256), .inl (0, 2048), .inl (0, 2048), .inl (0, 8), .inl (0, 4), .inl (0, 8)]) w
  refine zM_putFR (lst2 := [.inr (5, [o + 1 + 2, o + 2 + 2, o + 3 + 2, o + 4 + 2, o + 5 + 2, o + 6 + 2, o + 7 + 2, o + 8 + 2, 0, 1, 1, 1, 0, 0, 0, 0, 0]), .inl (0, 248), .inl (0, 248), .inl (0, 256), .inl (0, 2048), .inl (0, 2048), .inl (0, 8), .inl (0, 4), .inl (0, 8)]) dX6_init_69 fX6_33 rfl zclX6.1 ho rfl (Nat.le_of_ble_eq_true rfl) ⟨fun _ => rfl, fun _ => rfl⟩ rfl ?_
  show zA l mX6_init true 2 3 24 (qX6 S0 o w) zNo 72 [zR o] [] (S0 ++ [.inr (5, [o + 1 + 2, o + 2 + 2, o + 3 + 2, o + 4 + 2, o + 5 + 2, o + 6 + 2, o + 7 + 2, o + 8 + 2, 0, 1, 1, 1, 0, 0, 0, 0, 0]), .inl (0, 248), .inl (0, 248), .inl (0, 256), .inl (0, 2048), .inl (0, 2048), .inl (0, 8), .inl (0, 4), .inl (0, 8)]) w
  refine zA_aload_n dX6_init_72 rfl ?_
  show zA l mX6_init true 2 3 24 (qX6 S0 o w) zNo 73 [zR o] [zR o] (S0 ++ [.inr (5, [o + 1 + 2, o + 2 + 2, o + 3 + 2, o + 4 + 2, o + 5 + 2, o + 6 + 2, o + 7 + 2, o + 8 + 2, 0, 1, 1, 1, 0, 0, 0, 0, 0]), .inl (0, 248), .inl (0, 248), .inl (0, 256), .inl (0, 2048), .inl (0, 2048), .inl (0, 8), .inl (0, 4), .inl (0, 8)]) w
  refine zA_iconst dX6_init_73 ?_
  show zA l mX6_init true 2 3 24 (qX6 S0 o w) zNo 74 [zR o] [zI 0, zR o] (S0 ++ [.inr (5, [o + 1 + 2, o + 2 + 2, o + 3 + 2, o + 4 + 2, o + 5 + 2, o + 6 + 2, o + 7 + 2, o + 8 + 2, 0, 1, 1, 1, 0, 0, 0, 0, 0]), .inl (0, 248), .inl (0, 248), .inl (0, 256), .inl (0, 2048), .inl (0, 2048), .inl (0, 8), .inl (0, 4), .inl (0, 8)]) w
  refine zM_put0 dX6_init_74 fX6_36 ho rfl rfl ⟨rfl, rfl⟩ (hz _ _ (by omega) (by omega)) ?_
  show zA l mX6_init true 2 3 24 (qX6 S0 o w) zNo 77 [zR o] [] (S0 ++ [.inr (5, [o + 1 + 2, o + 2 + 2, o + 3 + 2, o + 4 + 2, o + 5 + 2, o + 6 + 2, o + 7 + 2, o + 8 + 2, 0, 1, 1, 1, 0, 0, 0, 0, 0]), .inl (0, 248), .inl (0, 248), .inl (0, 256), .inl (0, 2048), .inl (0, 2048), .inl (0, 8), .inl (0, 4), .inl (0, 8)]) w
  refine zA_aload_n dX6_init_77 rfl ?_
  show zA l mX6_init true 2 3 24 (qX6 S0 o w) zNo 78 [zR o] [zR o] (S0 ++ [.inr (5, [o + 1 + 2, o + 2 + 2, o + 3 + 2, o + 4 + 2, o + 5 + 2, o + 6 + 2, o + 7 + 2, o + 8 + 2, 0, 1, 1, 1, 0, 0, 0, 0, 0]), .inl (0, 248), .inl (0, 248), .inl (0, 256), .inl (0, 2048), .inl (0, 2048), .inl (0, 8), .inl (0, 4), .inl (0, 8)]) w
  refine zA_bipush dX6_init_78 rfl ?_
  show zA l mX6_init true 2 3 24 (qX6 S0 o w) zNo 80 [zR o] [zI 8, zR o] (S0 ++ [.inr (5, [o + 1 + 2, o + 2 + 2, o + 3 + 2, o + 4 + 2, o + 5 + 2, o + 6 + 2, o + 7 + 2, o + 8 + 2, 0, 1, 1, 1, 0, 0, 0, 0, 0]), .inl (0, 248), .inl (0, 248), .inl (0, 256), .inl (0, 2048), .inl (0, 2048), .inl (0, 8), .inl (0, 4), .inl (0, 8)]) w
  refine zM_newa (t := 0) (n := 8) (k := 9) (bc2 := 2) (bs2 := 16) (lst2 := [.inr (5, [o + 1 + 2, o + 2 + 2, o + 3 + 2, o + 4 + 2, o + 5 + 2, o + 6 + 2, o + 7 + 2, o + 8 + 2, 0, 1, 1, 1, 0, 0, 0, 0, 0]), .inl (0, 248), .inl (0, 248), .inl (0, 256), .inl (0, 2048), .inl (0, 2048), .inl (0, 8), .inl (0, 4), .inl (0, 8), .inl (0, 8)]) dX6_init_80 (Or.inl ⟨rfl, rfl⟩) zin_int rfl (by decide) ho rfl rfl (by omega) (fun x => hz _ _ (by omega) (by omega)) ⟨rfl, rfl⟩ ?_
  show zA l mX6_init true 2 2 16 (qX6 S0 o w) zNo 82 [zR o] [zR (o + 9), zR o] (S0 ++ [.inr (5, [o + 1 + 2, o + 2 + 2, o + 3 + 2, o + 4 + 2, o + 5 + 2, o + 6 + 2, o + 7 + 2, o + 8 + 2, 0, 1, 1, 1, 0, 0, 0, 0, 0]), .inl (0, 248), .inl (0, 248), .inl (0, 256), .inl (0, 2048), .inl (0, 2048), .inl (0, 8), .inl (0, 4), .inl (0, 8), .inl (0, 8)]) w
  refine zM_putFR (lst2 := [.inr (5, [o + 1 + 2, o + 2 + 2, o + 3 + 2, o + 4 + 2, o + 5 + 2, o + 6 + 2, o + 7 + 2, o + 8 + 2, 0, o + 9 + 2, 1, 1, 0, 0, 0, 0, 0]), .inl (0, 248), .inl (0, 248), .inl (0, 256), .inl (0, 2048), .inl (0, 2048), .inl (0, 8), .inl (0, 4), .inl (0, 8), .inl (0, 8)]) dX6_init_82 fX6_40 rfl zclX6.1 ho rfl (Nat.le_of_ble_eq_true rfl) ⟨fun _ => rfl, fun _ => rfl⟩ rfl ?_
  show zA l mX6_init true 2 2 16 (qX6 S0 o w) zNo 85 [zR o] [] (S0 ++ [.inr (5, [o + 1 + 2, o + 2 + 2, o + 3 + 2, o + 4 + 2, o + 5 + 2, o + 6 + 2, o + 7 + 2, o + 8 + 2, 0, o + 9 + 2, 1, 1, 0, 0, 0, 0, 0]), .inl (0, 248), .inl (0, 248), .inl (0, 256), .inl (0, 2048), .inl (0, 2048), .inl (0, 8), .inl (0, 4), .inl (0, 8), .inl (0, 8)]) w
  refine zA_aload_n dX6_init_85 rfl ?_
  show zA l mX6_init true 2 2 16 (qX6 S0 o w) zNo 86 [zR o] [zR o] (S0 ++ [.inr (5, [o + 1 + 2, o + 2 + 2, o + 3 + 2, o + 4 + 2, o + 5 + 2, o + 6 + 2, o + 7 + 2, o + 8 + 2, 0, o + 9 + 2, 1, 1, 0, 0, 0, 0, 0]), .inl (0, 248), .inl (0, 248), .inl (0, 256), .inl (0, 2048), .inl (0, 2048), .inl (0, 8), .inl (0, 4), .inl (0, 8), .inl (0, 8)]) w
  refine zA_bipush dX6_init_86 rfl ?_
  show zA l mX6_init true 2 2 16 (qX6 S0 o w) zNo 88 [zR o] [zI 8, zR o] (S0 ++ [.inr (5, [o + 1 + 2, o + 2 + 2, o + 3 + 2, o + 4 + 2, o + 5 + 2, o + 6 + 2, o + 7 + 2, o + 8 + 2, 0, o + 9 + 2, 1, 1, 0, 0, 0, 0, 0]), .inl (0, 248), .inl (0, 248), .inl (0, 256), .inl (0, 2048), .inl (0, 2048), .inl (0, 8), .inl (0, 4), .inl (0, 8), .inl (0, 8)]) w
  refine zM_newa (t := 0) (n := 8) (k := 10) (bc2 := 1) (bs2 := 8) (lst2 := [.inr (5, [o + 1 + 2, o + 2 + 2, o + 3 + 2, o + 4 + 2, o + 5 + 2, o + 6 + 2, o + 7 + 2, o + 8 + 2, 0, o + 9 + 2, 1, 1, 0, 0, 0, 0, 0]), .inl (0, 248), .inl (0, 248), .inl (0, 256), .inl (0, 2048), .inl (0, 2048), .inl (0, 8), .inl (0, 4), .inl (0, 8), .inl (0, 8), .inl (0, 8)]) dX6_init_88 (Or.inl ⟨rfl, rfl⟩) zin_int rfl (by decide) ho rfl rfl (by omega) (fun x => hz _ _ (by omega) (by omega)) ⟨rfl, rfl⟩ ?_
  show zA l mX6_init true 2 1 8 (qX6 S0 o w) zNo 90 [zR o] [zR (o + 10), zR o] (S0 ++ [.inr (5, [o + 1 + 2, o + 2 + 2, o + 3 + 2, o + 4 + 2, o + 5 + 2, o + 6 + 2, o + 7 + 2, o + 8 + 2, 0, o + 9 + 2, 1, 1, 0, 0, 0, 0, 0]), .inl (0, 248), .inl (0, 248), .inl (0, 256), .inl (0, 2048), .inl (0, 2048), .inl (0, 8), .inl (0, 4), .inl (0, 8), .inl (0, 8), .inl (0, 8)]) w
  refine zM_putFR (lst2 := [.inr (5, [o + 1 + 2, o + 2 + 2, o + 3 + 2, o + 4 + 2, o + 5 + 2, o + 6 + 2, o + 7 + 2, o + 8 + 2, 0, o + 9 + 2, o + 10 + 2, 1, 0, 0, 0, 0, 0]), .inl (0, 248), .inl (0, 248), .inl (0, 256), .inl (0, 2048), .inl (0, 2048), .inl (0, 8), .inl (0, 4), .inl (0, 8), .inl (0, 8), .inl (0, 8)]) dX6_init_90 fX6_43 rfl zclX6.1 ho rfl (Nat.le_of_ble_eq_true rfl) ⟨fun _ => rfl, fun _ => rfl⟩ rfl ?_
  show zA l mX6_init true 2 1 8 (qX6 S0 o w) zNo 93 [zR o] [] (S0 ++ [.inr (5, [o + 1 + 2, o + 2 + 2, o + 3 + 2, o + 4 + 2, o + 5 + 2, o + 6 + 2, o + 7 + 2, o + 8 + 2, 0, o + 9 + 2, o + 10 + 2, 1, 0, 0, 0, 0, 0]), .inl (0, 248), .inl (0, 248), .inl (0, 256), .inl (0, 2048), .inl (0, 2048), .inl (0, 8), .inl (0, 4), .inl (0, 8), .inl (0, 8), .inl (0, 8)]) w
  refine zA_aload_n dX6_init_93 rfl ?_
  show zA l mX6_init true 2 1 8 (qX6 S0 o w) zNo 94 [zR o] [zR o] (S0 ++ [.inr (5, [o + 1 + 2, o + 2 + 2, o + 3 + 2, o + 4 + 2, o + 5 + 2, o + 6 + 2, o + 7 + 2, o + 8 + 2, 0, o + 9 + 2, o + 10 + 2, 1, 0, 0, 0, 0, 0]), .inl (0, 248), .inl (0, 248), .inl (0, 256), .inl (0, 2048), .inl (0, 2048), .inl (0, 8), .inl (0, 4), .inl (0, 8), .inl (0, 8), .inl (0, 8)]) w
  refine zA_bipush dX6_init_94 rfl ?_
  show zA l mX6_init true 2 1 8 (qX6 S0 o w) zNo 96 [zR o] [zI 8, zR o] (S0 ++ [.inr (5, [o + 1 + 2, o + 2 + 2, o + 3 + 2, o + 4 + 2, o + 5 + 2, o + 6 + 2, o + 7 + 2, o + 8 + 2, 0, o + 9 + 2, o + 10 + 2, 1, 0, 0, 0, 0, 0]), .inl (0, 248), .inl (0, 248), .inl (0, 256), .inl (0, 2048), .inl (0, 2048), .inl (0, 8), .inl (0, 4), .inl (0, 8), .inl (0, 8), .inl (0, 8)]) w
  refine zM_newa (t := 0) (n := 8) (k := 11) (bc2 := 0) (bs2 := 0) (lst2 := [.inr (5, [o + 1 + 2, o + 2 + 2, o + 3 + 2, o + 4 + 2, o + 5 + 2, o + 6 + 2, o + 7 + 2, o + 8 + 2, 0, o + 9 + 2, o + 10 + 2, 1, 0, 0, 0, 0, 0]), .inl (0, 248), .inl (0, 248), .inl (0, 256), .inl (0, 2048), .inl (0, 2048), .inl (0, 8), .inl (0, 4), .inl (0, 8), .inl (0, 8), .inl (0, 8), .inl (0, 8)]) dX6_init_96 (Or.inl ⟨rfl, rfl⟩) zin_int rfl (by decide) ho rfl rfl (by omega) (fun x => hz _ _ (by omega) (by omega)) ⟨rfl, rfl⟩ ?_
  show zA l mX6_init true 2 0 0 (qX6 S0 o w) zNo 98 [zR o] [zR (o + 11), zR o] (S0 ++ [.inr (5, [o + 1 + 2, o + 2 + 2, o + 3 + 2, o + 4 + 2, o + 5 + 2, o + 6 + 2, o + 7 + 2, o + 8 + 2, 0, o + 9 + 2, o + 10 + 2, 1, 0, 0, 0, 0, 0]), .inl (0, 248), .inl (0, 248), .inl (0, 256), .inl (0, 2048), .inl (0, 2048), .inl (0, 8), .inl (0, 4), .inl (0, 8), .inl (0, 8), .inl (0, 8), .inl (0, 8)]) w
  refine zM_putFR (lst2 := [.inr (5, [o + 1 + 2, o + 2 + 2, o + 3 + 2, o + 4 + 2, o + 5 + 2, o + 6 + 2, o + 7 + 2, o + 8 + 2, 0, o + 9 + 2, o + 10 + 2, o + 11 + 2, 0, 0, 0, 0, 0]), .inl (0, 248), .inl (0, 248), .inl (0, 256), .inl (0, 2048), .inl (0, 2048), .inl (0, 8), .inl (0, 4), .inl (0, 8), .inl (0, 8), .inl (0, 8), .inl (0, 8)]) dX6_init_98 fX6_46 rfl zclX6.1 ho rfl (Nat.le_of_ble_eq_true rfl) ⟨fun _ => rfl, fun _ => rfl⟩ rfl ?_
  show zA l mX6_init true 2 0 0 (qX6 S0 o w) zNo 101 [zR o] [] (S0 ++ [.inr (5, [o + 1 + 2, o + 2 + 2, o + 3 + 2, o + 4 + 2, o + 5 + 2, o + 6 + 2, o + 7 + 2, o + 8 + 2, 0, o + 9 + 2, o + 10 + 2, o + 11 + 2, 0, 0, 0, 0, 0]), .inl (0, 248), .inl (0, 248), .inl (0, 256), .inl (0, 2048), .inl (0, 2048), .inl (0, 8), .inl (0, 4), .inl (0, 8), .inl (0, 8), .inl (0, 8), .inl (0, 8)]) w
  refine zA_aload_n dX6_init_101 rfl ?_
  show zA l mX6_init true 2 0 0 (qX6 S0 o w) zNo 102 [zR o] [zR o] (S0 ++ [.inr (5, [o + 1 + 2, o + 2 + 2, o + 3 + 2, o + 4 + 2, o + 5 + 2, o + 6 + 2, o + 7 + 2, o + 8 + 2, 0, o + 9 + 2, o + 10 + 2, o + 11 + 2, 0, 0, 0, 0, 0]), .inl (0, 248), .inl (0, 248), .inl (0, 256), .inl (0, 2048), .inl (0, 2048), .inl (0, 8), .inl (0, 4), .inl (0, 8), .inl (0, 8), .inl (0, 8), .inl (0, 8)]) w
  refine zA_iconst dX6_init_102 ?_
  show zA l mX6_init true 2 0 0 (qX6 S0 o w) zNo 103 [zR o] [zI 0, zR o] (S0 ++ [.inr (5, [o + 1 + 2, o + 2 + 2, o + 3 + 2, o + 4 + 2, o + 5 + 2, o + 6 + 2, o + 7 + 2, o + 8 + 2, 0, o + 9 + 2, o + 10 + 2, o + 11 + 2, 0, 0, 0, 0, 0]), .inl (0, 248), .inl (0, 248), .inl (0, 256), .inl (0, 2048), .inl (0, 2048), .inl (0, 8), .inl (0, 4), .inl (0, 8), .inl (0, 8), .inl (0, 8), .inl (0, 8)]) w
  refine zM_put0 dX6_init_103 fX6_49 ho rfl rfl ⟨rfl, rfl⟩ (hz _ _ (by omega) (by omega)) ?_
  show zA l mX6_init true 2 0 0 (qX6 S0 o w) zNo 106 [zR o] [] (S0 ++ [.inr (5, [o + 1 + 2, o + 2 + 2, o + 3 + 2, o + 4 + 2, o + 5 + 2, o + 6 + 2, o + 7 + 2, o + 8 + 2, 0, o + 9 + 2, o + 10 + 2, o + 11 + 2, 0, 0, 0, 0, 0]), .inl (0, 248), .inl (0, 248), .inl (0, 256), .inl (0, 2048), .inl (0, 2048), .inl (0, 8), .inl (0, 4), .inl (0, 8), .inl (0, 8), .inl (0, 8), .inl (0, 8)]) w
  refine zA_aload_n dX6_init_106 rfl ?_
  show zA l mX6_init true 2 0 0 (qX6 S0 o w) zNo 107 [zR o] [zR o] (S0 ++ [.inr (5, [o + 1 + 2, o + 2 + 2, o + 3 + 2, o + 4 + 2, o + 5 + 2, o + 6 + 2, o + 7 + 2, o + 8 + 2, 0, o + 9 + 2, o + 10 + 2, o + 11 + 2, 0, 0, 0, 0, 0]), .inl (0, 248), .inl (0, 248), .inl (0, 256), .inl (0, 2048), .inl (0, 2048), .inl (0, 8), .inl (0, 4), .inl (0, 8), .inl (0, 8), .inl (0, 8), .inl (0, 8)]) w
  refine zA_iconst dX6_init_107 ?_
  show zA l mX6_init true 2 0 0 (qX6 S0 o w) zNo 108 [zR o] [zI (-1), zR o] (S0 ++ [.inr (5, [o + 1 + 2, o + 2 + 2, o + 3 + 2, o + 4 + 2, o + 5 + 2, o + 6 + 2, o + 7 + 2, o + 8 + 2, 0, o + 9 + 2, o + 10 + 2, o + 11 + 2, 0, 0, 0, 0, 0]), .inl (0, 248), .inl (0, 248), .inl (0, 256), .inl (0, 2048), .inl (0, 2048), .inl (0, 8), .inl (0, 4), .inl (0, 8), .inl (0, 8), .inl (0, 8), .inl (0, 8)]) w
  refine zM_putI dX6_init_108 fX6_52 ho rfl rfl ⟨by decide, by decide⟩ ⟨rfl, rfl⟩ ?_
  have hw_ : ∀ (cc : Nat) (x : Int), o < cc → (up w o 13 (-1)) cc x = w cc x := fun cc x hc => by rw [up_n (by omega)]
  show zA l mX6_init true 2 0 0 (qX6 S0 o w) zNo 111 [zR o] [] (S0 ++ [.inr (5, [o + 1 + 2, o + 2 + 2, o + 3 + 2, o + 4 + 2, o + 5 + 2, o + 6 + 2, o + 7 + 2, o + 8 + 2, 0, o + 9 + 2, o + 10 + 2, o + 11 + 2, 0, 0, 0, 0, 0]), .inl (0, 248), .inl (0, 248), .inl (0, 256), .inl (0, 2048), .inl (0, 2048), .inl (0, 8), .inl (0, 4), .inl (0, 8), .inl (0, 8), .inl (0, 8), .inl (0, 8)]) (up w o 13 (-1))
  refine zA_aload_n dX6_init_111 rfl ?_
  show zA l mX6_init true 2 0 0 (qX6 S0 o w) zNo 112 [zR o] [zR o] (S0 ++ [.inr (5, [o + 1 + 2, o + 2 + 2, o + 3 + 2, o + 4 + 2, o + 5 + 2, o + 6 + 2, o + 7 + 2, o + 8 + 2, 0, o + 9 + 2, o + 10 + 2, o + 11 + 2, 0, 0, 0, 0, 0]), .inl (0, 248), .inl (0, 248), .inl (0, 256), .inl (0, 2048), .inl (0, 2048), .inl (0, 8), .inl (0, 4), .inl (0, 8), .inl (0, 8), .inl (0, 8), .inl (0, 8)]) (up w o 13 (-1))
  refine zA_iconst dX6_init_112 ?_
  show zA l mX6_init true 2 0 0 (qX6 S0 o w) zNo 113 [zR o] [zI 0, zR o] (S0 ++ [.inr (5, [o + 1 + 2, o + 2 + 2, o + 3 + 2, o + 4 + 2, o + 5 + 2, o + 6 + 2, o + 7 + 2, o + 8 + 2, 0, o + 9 + 2, o + 10 + 2, o + 11 + 2, 0, 0, 0, 0, 0]), .inl (0, 248), .inl (0, 248), .inl (0, 256), .inl (0, 2048), .inl (0, 2048), .inl (0, 8), .inl (0, 4), .inl (0, 8), .inl (0, 8), .inl (0, 8), .inl (0, 8)]) (up w o 13 (-1))
  refine zM_put0 dX6_init_113 fX6_55 ho rfl rfl ⟨rfl, rfl⟩ (by rw [up_n (by omega)]; exact hz _ _ (by omega) (by omega)) ?_
  show zA l mX6_init true 2 0 0 (qX6 S0 o w) zNo 116 [zR o] [] (S0 ++ [.inr (5, [o + 1 + 2, o + 2 + 2, o + 3 + 2, o + 4 + 2, o + 5 + 2, o + 6 + 2, o + 7 + 2, o + 8 + 2, 0, o + 9 + 2, o + 10 + 2, o + 11 + 2, 0, 0, 0, 0, 0]), .inl (0, 248), .inl (0, 248), .inl (0, 256), .inl (0, 2048), .inl (0, 2048), .inl (0, 8), .inl (0, 4), .inl (0, 8), .inl (0, 8), .inl (0, 8), .inl (0, 8)]) (up w o 13 (-1))
  refine zA_aload_n dX6_init_116 rfl ?_
  show zA l mX6_init true 2 0 0 (qX6 S0 o w) zNo 117 [zR o] [zR o] (S0 ++ [.inr (5, [o + 1 + 2, o + 2 + 2, o + 3 + 2, o + 4 + 2, o + 5 + 2, o + 6 + 2, o + 7 + 2, o + 8 + 2, 0, o + 9 + 2, o + 10 + 2, o + 11 + 2, 0, 0, 0, 0, 0]), .inl (0, 248), .inl (0, 248), .inl (0, 256), .inl (0, 2048), .inl (0, 2048), .inl (0, 8), .inl (0, 4), .inl (0, 8), .inl (0, 8), .inl (0, 8), .inl (0, 8)]) (up w o 13 (-1))
  refine zA_iconst dX6_init_117 ?_
  show zA l mX6_init true 2 0 0 (qX6 S0 o w) zNo 118 [zR o] [zI 0, zR o] (S0 ++ [.inr (5, [o + 1 + 2, o + 2 + 2, o + 3 + 2, o + 4 + 2, o + 5 + 2, o + 6 + 2, o + 7 + 2, o + 8 + 2, 0, o + 9 + 2, o + 10 + 2, o + 11 + 2, 0, 0, 0, 0, 0]), .inl (0, 248), .inl (0, 248), .inl (0, 256), .inl (0, 2048), .inl (0, 2048), .inl (0, 8), .inl (0, 4), .inl (0, 8), .inl (0, 8), .inl (0, 8), .inl (0, 8)]) (up w o 13 (-1))
  refine zM_put0 dX6_init_118 fX6_58 ho rfl rfl ⟨rfl, rfl⟩ (by rw [up_n (by omega)]; exact hz _ _ (by omega) (by omega)) ?_
  show zA l mX6_init true 2 0 0 (qX6 S0 o w) zNo 121 [zR o] [] (S0 ++ [.inr (5, [o + 1 + 2, o + 2 + 2, o + 3 + 2, o + 4 + 2, o + 5 + 2, o + 6 + 2, o + 7 + 2, o + 8 + 2, 0, o + 9 + 2, o + 10 + 2, o + 11 + 2, 0, 0, 0, 0, 0]), .inl (0, 248), .inl (0, 248), .inl (0, 256), .inl (0, 2048), .inl (0, 2048), .inl (0, 8), .inl (0, 4), .inl (0, 8), .inl (0, 8), .inl (0, 8), .inl (0, 8)]) (up w o 13 (-1))
  refine zA_aload_n dX6_init_121 rfl ?_
  show zA l mX6_init true 2 0 0 (qX6 S0 o w) zNo 122 [zR o] [zR o] (S0 ++ [.inr (5, [o + 1 + 2, o + 2 + 2, o + 3 + 2, o + 4 + 2, o + 5 + 2, o + 6 + 2, o + 7 + 2, o + 8 + 2, 0, o + 9 + 2, o + 10 + 2, o + 11 + 2, 0, 0, 0, 0, 0]), .inl (0, 248), .inl (0, 248), .inl (0, 256), .inl (0, 2048), .inl (0, 2048), .inl (0, 8), .inl (0, 4), .inl (0, 8), .inl (0, 8), .inl (0, 8), .inl (0, 8)]) (up w o 13 (-1))
  refine zA_iconst dX6_init_122 ?_
  show zA l mX6_init true 2 0 0 (qX6 S0 o w) zNo 123 [zR o] [zI 0, zR o] (S0 ++ [.inr (5, [o + 1 + 2, o + 2 + 2, o + 3 + 2, o + 4 + 2, o + 5 + 2, o + 6 + 2, o + 7 + 2, o + 8 + 2, 0, o + 9 + 2, o + 10 + 2, o + 11 + 2, 0, 0, 0, 0, 0]), .inl (0, 248), .inl (0, 248), .inl (0, 256), .inl (0, 2048), .inl (0, 2048), .inl (0, 8), .inl (0, 4), .inl (0, 8), .inl (0, 8), .inl (0, 8), .inl (0, 8)]) (up w o 13 (-1))
  refine zM_put0 dX6_init_123 fX6_62 ho rfl rfl ⟨rfl, rfl⟩ (by rw [up_n (by omega)]; exact hz _ _ (by omega) (by omega)) ?_
  show zA l mX6_init true 2 0 0 (qX6 S0 o w) zNo 126 [zR o] [] (S0 ++ [.inr (5, [o + 1 + 2, o + 2 + 2, o + 3 + 2, o + 4 + 2, o + 5 + 2, o + 6 + 2, o + 7 + 2, o + 8 + 2, 0, o + 9 + 2, o + 10 + 2, o + 11 + 2, 0, 0, 0, 0, 0]), .inl (0, 248), .inl (0, 248), .inl (0, 256), .inl (0, 2048), .inl (0, 2048), .inl (0, 8), .inl (0, 4), .inl (0, 8), .inl (0, 8), .inl (0, 8), .inl (0, 8)]) (up w o 13 (-1))
  exact zA_vret dX6_init_126 rfl ⟨rfl, rfl, rfl⟩
def qX7 (S0 : zS) (o : Nat) (w : zW) : Option Value → zS → zW → Prop := fun v' S' w' => v' = none ∧ S' = S0 ++ [.inr (6, [o + 1 + 2, o + 2 + 2, o + 3 + 2, o + 4 + 2]), .inl (0, 120), .inl (0, 120), .inl (0, 12), .inl (0, 12)] ∧ w' = w
theorem jX7 : zMI mX7_init 0 := ⟨iX7_init, rfl, rfl, rfl, by decide, by decide +kernel, by decide +kernel, by decide +kernel⟩
set_option maxRecDepth 100000 in
set_option maxHeartbeats 4000000 in
theorem n_X7 {l : Launch} {S0 : zS} {w : zW} {o : Nat} (ho : S0.length = o) (hl : o < 900) (hz : ∀ (c : Nat) (x : Int), o ≤ c → c < o + 5 → w c x = 0) : zSp l mX7_init true 2 4 264 [zR o] (S0 ++ [.inr (6, [1, 1, 1, 1])]) w (qX7 S0 o w) zNo := by
  refine zA_intro ⟨plainFor_of_name (by decide +kernel), Or.inl (by decide +kernel)⟩ rfl (Nat.le_of_ble_eq_true rfl) ?_
  show zA l mX7_init true 2 4 264 (qX7 S0 o w) zNo 0 [zR o] [] (S0 ++ [.inr (6, [1, 1, 1, 1])]) w
  refine zA_aload_n dX7_init_0 rfl ?_
  show zA l mX7_init true 2 4 264 (qX7 S0 o w) zNo 1 [zR o] [zR o] (S0 ++ [.inr (6, [1, 1, 1, 1])]) w
  refine zN_objInit dX7_init_1 koX7_3 zin_oi zin_oc (by simp) ?_
  show zA l mX7_init true 2 4 264 (qX7 S0 o w) zNo 4 [zR o] [] (S0 ++ [.inr (6, [1, 1, 1, 1])]) w
  refine zA_aload_n dX7_init_4 rfl ?_
  show zA l mX7_init true 2 4 264 (qX7 S0 o w) zNo 5 [zR o] [zR o] (S0 ++ [.inr (6, [1, 1, 1, 1])]) w
  refine zA_bipush dX7_init_5 rfl ?_
  show zA l mX7_init true 2 4 264 (qX7 S0 o w) zNo 7 [zR o] [zI 120, zR o] (S0 ++ [.inr (6, [1, 1, 1, 1])]) w
  refine zM_newa (t := 0) (n := 120) (k := 1) (bc2 := 3) (bs2 := 144) (lst2 := [.inr (6, [1, 1, 1, 1]), .inl (0, 120)]) dX7_init_7 (Or.inl ⟨rfl, rfl⟩) zin_int rfl (by decide) ho rfl rfl (by omega) (fun x => hz _ _ (by omega) (by omega)) ⟨rfl, rfl⟩ ?_
  show zA l mX7_init true 2 3 144 (qX7 S0 o w) zNo 9 [zR o] [zR (o + 1), zR o] (S0 ++ [.inr (6, [1, 1, 1, 1]), .inl (0, 120)]) w
  refine zM_putFR (lst2 := [.inr (6, [o + 1 + 2, 1, 1, 1]), .inl (0, 120)]) dX7_init_9 fX7_11 rfl zclX7.1 ho rfl (Nat.le_of_ble_eq_true rfl) ⟨fun _ => rfl, fun _ => rfl⟩ rfl ?_
  show zA l mX7_init true 2 3 144 (qX7 S0 o w) zNo 12 [zR o] [] (S0 ++ [.inr (6, [o + 1 + 2, 1, 1, 1]), .inl (0, 120)]) w
  refine zA_aload_n dX7_init_12 rfl ?_
  show zA l mX7_init true 2 3 144 (qX7 S0 o w) zNo 13 [zR o] [zR o] (S0 ++ [.inr (6, [o + 1 + 2, 1, 1, 1]), .inl (0, 120)]) w
  refine zA_bipush dX7_init_13 rfl ?_
  show zA l mX7_init true 2 3 144 (qX7 S0 o w) zNo 15 [zR o] [zI 120, zR o] (S0 ++ [.inr (6, [o + 1 + 2, 1, 1, 1]), .inl (0, 120)]) w
  refine zM_newa (t := 0) (n := 120) (k := 2) (bc2 := 2) (bs2 := 24) (lst2 := [.inr (6, [o + 1 + 2, 1, 1, 1]), .inl (0, 120), .inl (0, 120)]) dX7_init_15 (Or.inl ⟨rfl, rfl⟩) zin_int rfl (by decide) ho rfl rfl (by omega) (fun x => hz _ _ (by omega) (by omega)) ⟨rfl, rfl⟩ ?_
  show zA l mX7_init true 2 2 24 (qX7 S0 o w) zNo 17 [zR o] [zR (o + 2), zR o] (S0 ++ [.inr (6, [o + 1 + 2, 1, 1, 1]), .inl (0, 120), .inl (0, 120)]) w
  refine zM_putFR (lst2 := [.inr (6, [o + 1 + 2, o + 2 + 2, 1, 1]), .inl (0, 120), .inl (0, 120)]) dX7_init_17 fX7_15 rfl zclX7.1 ho rfl (Nat.le_of_ble_eq_true rfl) ⟨fun _ => rfl, fun _ => rfl⟩ rfl ?_
  show zA l mX7_init true 2 2 24 (qX7 S0 o w) zNo 20 [zR o] [] (S0 ++ [.inr (6, [o + 1 + 2, o + 2 + 2, 1, 1]), .inl (0, 120), .inl (0, 120)]) w
  refine zA_aload_n dX7_init_20 rfl ?_
  show zA l mX7_init true 2 2 24 (qX7 S0 o w) zNo 21 [zR o] [zR o] (S0 ++ [.inr (6, [o + 1 + 2, o + 2 + 2, 1, 1]), .inl (0, 120), .inl (0, 120)]) w
  refine zA_bipush dX7_init_21 rfl ?_
  show zA l mX7_init true 2 2 24 (qX7 S0 o w) zNo 23 [zR o] [zI 12, zR o] (S0 ++ [.inr (6, [o + 1 + 2, o + 2 + 2, 1, 1]), .inl (0, 120), .inl (0, 120)]) w
  refine zM_newa (t := 0) (n := 12) (k := 3) (bc2 := 1) (bs2 := 12) (lst2 := [.inr (6, [o + 1 + 2, o + 2 + 2, 1, 1]), .inl (0, 120), .inl (0, 120), .inl (0, 12)]) dX7_init_23 (Or.inl ⟨rfl, rfl⟩) zin_int rfl (by decide) ho rfl rfl (by omega) (fun x => hz _ _ (by omega) (by omega)) ⟨rfl, rfl⟩ ?_
  show zA l mX7_init true 2 1 12 (qX7 S0 o w) zNo 25 [zR o] [zR (o + 3), zR o] (S0 ++ [.inr (6, [o + 1 + 2, o + 2 + 2, 1, 1]), .inl (0, 120), .inl (0, 120), .inl (0, 12)]) w
  refine zM_putFR (lst2 := [.inr (6, [o + 1 + 2, o + 2 + 2, o + 3 + 2, 1]), .inl (0, 120), .inl (0, 120), .inl (0, 12)]) dX7_init_25 fX7_18 rfl zclX7.1 ho rfl (Nat.le_of_ble_eq_true rfl) ⟨fun _ => rfl, fun _ => rfl⟩ rfl ?_
  show zA l mX7_init true 2 1 12 (qX7 S0 o w) zNo 28 [zR o] [] (S0 ++ [.inr (6, [o + 1 + 2, o + 2 + 2, o + 3 + 2, 1]), .inl (0, 120), .inl (0, 120), .inl (0, 12)]) w
  refine zA_aload_n dX7_init_28 rfl ?_
  show zA l mX7_init true 2 1 12 (qX7 S0 o w) zNo 29 [zR o] [zR o] (S0 ++ [.inr (6, [o + 1 + 2, o + 2 + 2, o + 3 + 2, 1]), .inl (0, 120), .inl (0, 120), .inl (0, 12)]) w
  refine zA_bipush dX7_init_29 rfl ?_
  show zA l mX7_init true 2 1 12 (qX7 S0 o w) zNo 31 [zR o] [zI 12, zR o] (S0 ++ [.inr (6, [o + 1 + 2, o + 2 + 2, o + 3 + 2, 1]), .inl (0, 120), .inl (0, 120), .inl (0, 12)]) w
  refine zM_newa (t := 0) (n := 12) (k := 4) (bc2 := 0) (bs2 := 0) (lst2 := [.inr (6, [o + 1 + 2, o + 2 + 2, o + 3 + 2, 1]), .inl (0, 120), .inl (0, 120), .inl (0, 12), .inl (0, 12)]) dX7_init_31 (Or.inl ⟨rfl, rfl⟩) zin_int rfl (by decide) ho rfl rfl (by omega) (fun x => hz _ _ (by omega) (by omega)) ⟨rfl, rfl⟩ ?_
  show zA l mX7_init true 2 0 0 (qX7 S0 o w) zNo 33 [zR o] [zR (o + 4), zR o] (S0 ++ [.inr (6, [o + 1 + 2, o + 2 + 2, o + 3 + 2, 1]), .inl (0, 120), .inl (0, 120), .inl (0, 12), .inl (0, 12)]) w
  refine zM_putFR (lst2 := [.inr (6, [o + 1 + 2, o + 2 + 2, o + 3 + 2, o + 4 + 2]), .inl (0, 120), .inl (0, 120), .inl (0, 12), .inl (0, 12)]) dX7_init_33 fX7_21 rfl zclX7.1 ho rfl (Nat.le_of_ble_eq_true rfl) ⟨fun _ => rfl, fun _ => rfl⟩ rfl ?_
  show zA l mX7_init true 2 0 0 (qX7 S0 o w) zNo 36 [zR o] [] (S0 ++ [.inr (6, [o + 1 + 2, o + 2 + 2, o + 3 + 2, o + 4 + 2]), .inl (0, 120), .inl (0, 120), .inl (0, 12), .inl (0, 12)]) w
  exact zA_vret dX7_init_36 rfl ⟨rfl, rfl, rfl⟩
def qX9 (S0 : zS) (o : Nat) (w : zW) : Option Value → zS → zW → Prop := fun v' S' w' => v' = none ∧ S' = S0 ++ [.inr (8, [o + 1 + 2, o + 2 + 2, o + 3 + 2, o + 4 + 2, 0, 0, 0, 0, 0, 0, 0, 0, 0]), .inl (0, 16384), .inl (0, 16384), .inl (0, 16384), .inl (0, 15)] ∧ w' = up (up w o 10 (-1)) o 11 (-1)
theorem jX9 : zMI mX9_init 0 := ⟨iX9_init, rfl, rfl, rfl, by decide, by decide +kernel, by decide +kernel, by decide +kernel⟩
set_option maxRecDepth 100000 in
set_option maxHeartbeats 4000000 in
theorem n_X9 {l : Launch} {S0 : zS} {w : zW} {o : Nat} (ho : S0.length = o) (hl : o < 900) (hz : ∀ (c : Nat) (x : Int), o ≤ c → c < o + 5 → w c x = 0) : zSp l mX9_init true 2 4 49167 [zR o] (S0 ++ [.inr (8, [1, 1, 1, 1, 0, 0, 0, 0, 0, 0, 0, 0, 0])]) w (qX9 S0 o w) zNo := by
  refine zA_intro ⟨plainFor_of_name (by decide +kernel), Or.inl (by decide +kernel)⟩ rfl (Nat.le_of_ble_eq_true rfl) ?_
  show zA l mX9_init true 2 4 49167 (qX9 S0 o w) zNo 0 [zR o] [] (S0 ++ [.inr (8, [1, 1, 1, 1, 0, 0, 0, 0, 0, 0, 0, 0, 0])]) w
  refine zA_aload_n dX9_init_0 rfl ?_
  show zA l mX9_init true 2 4 49167 (qX9 S0 o w) zNo 1 [zR o] [zR o] (S0 ++ [.inr (8, [1, 1, 1, 1, 0, 0, 0, 0, 0, 0, 0, 0, 0])]) w
  refine zN_objInit dX9_init_1 koX9_5 zin_oi zin_oc (by simp) ?_
  show zA l mX9_init true 2 4 49167 (qX9 S0 o w) zNo 4 [zR o] [] (S0 ++ [.inr (8, [1, 1, 1, 1, 0, 0, 0, 0, 0, 0, 0, 0, 0])]) w
  refine zA_aload_n dX9_init_4 rfl ?_
  show zA l mX9_init true 2 4 49167 (qX9 S0 o w) zNo 5 [zR o] [zR o] (S0 ++ [.inr (8, [1, 1, 1, 1, 0, 0, 0, 0, 0, 0, 0, 0, 0])]) w
  refine zA_sipush dX9_init_5 rfl ?_
  show zA l mX9_init true 2 4 49167 (qX9 S0 o w) zNo 8 [zR o] [zI 16384, zR o] (S0 ++ [.inr (8, [1, 1, 1, 1, 0, 0, 0, 0, 0, 0, 0, 0, 0])]) w
  refine zM_newa (t := 0) (n := 16384) (k := 1) (bc2 := 3) (bs2 := 32783) (lst2 := [.inr (8, [1, 1, 1, 1, 0, 0, 0, 0, 0, 0, 0, 0, 0]), .inl (0, 16384)]) dX9_init_8 (Or.inl ⟨rfl, rfl⟩) zin_int rfl (by decide) ho rfl rfl (by omega) (fun x => hz _ _ (by omega) (by omega)) ⟨rfl, rfl⟩ ?_
  show zA l mX9_init true 2 3 32783 (qX9 S0 o w) zNo 10 [zR o] [zR (o + 1), zR o] (S0 ++ [.inr (8, [1, 1, 1, 1, 0, 0, 0, 0, 0, 0, 0, 0, 0]), .inl (0, 16384)]) w
  refine zM_putFR (lst2 := [.inr (8, [o + 1 + 2, 1, 1, 1, 0, 0, 0, 0, 0, 0, 0, 0, 0]), .inl (0, 16384)]) dX9_init_10 fX9_11 rfl zclX9.1 ho rfl (Nat.le_of_ble_eq_true rfl) ⟨fun _ => rfl, fun _ => rfl⟩ rfl ?_
  show zA l mX9_init true 2 3 32783 (qX9 S0 o w) zNo 13 [zR o] [] (S0 ++ [.inr (8, [o + 1 + 2, 1, 1, 1, 0, 0, 0, 0, 0, 0, 0, 0, 0]), .inl (0, 16384)]) w
  refine zA_aload_n dX9_init_13 rfl ?_
  show zA l mX9_init true 2 3 32783 (qX9 S0 o w) zNo 14 [zR o] [zR o] (S0 ++ [.inr (8, [o + 1 + 2, 1, 1, 1, 0, 0, 0, 0, 0, 0, 0, 0, 0]), .inl (0, 16384)]) w
  refine zA_sipush dX9_init_14 rfl ?_
  show zA l mX9_init true 2 3 32783 (qX9 S0 o w) zNo 17 [zR o] [zI 16384, zR o] (S0 ++ [.inr (8, [o + 1 + 2, 1, 1, 1, 0, 0, 0, 0, 0, 0, 0, 0, 0]), .inl (0, 16384)]) w
  refine zM_newa (t := 0) (n := 16384) (k := 2) (bc2 := 2) (bs2 := 16399) (lst2 := [.inr (8, [o + 1 + 2, 1, 1, 1, 0, 0, 0, 0, 0, 0, 0, 0, 0]), .inl (0, 16384), .inl (0, 16384)]) dX9_init_17 (Or.inl ⟨rfl, rfl⟩) zin_int rfl (by decide) ho rfl rfl (by omega) (fun x => hz _ _ (by omega) (by omega)) ⟨rfl, rfl⟩ ?_
  show zA l mX9_init true 2 2 16399 (qX9 S0 o w) zNo 19 [zR o] [zR (o + 2), zR o] (S0 ++ [.inr (8, [o + 1 + 2, 1, 1, 1, 0, 0, 0, 0, 0, 0, 0, 0, 0]), .inl (0, 16384), .inl (0, 16384)]) w
  refine zM_putFR (lst2 := [.inr (8, [o + 1 + 2, o + 2 + 2, 1, 1, 0, 0, 0, 0, 0, 0, 0, 0, 0]), .inl (0, 16384), .inl (0, 16384)]) dX9_init_19 fX9_15 rfl zclX9.1 ho rfl (Nat.le_of_ble_eq_true rfl) ⟨fun _ => rfl, fun _ => rfl⟩ rfl ?_
  show zA l mX9_init true 2 2 16399 (qX9 S0 o w) zNo 22 [zR o] [] (S0 ++ [.inr (8, [o + 1 + 2, o + 2 + 2, 1, 1, 0, 0, 0, 0, 0, 0, 0, 0, 0]), .inl (0, 16384), .inl (0, 16384)]) w
  refine zA_aload_n dX9_init_22 rfl ?_
  show zA l mX9_init true 2 2 16399 (qX9 S0 o w) zNo 23 [zR o] [zR o] (S0 ++ [.inr (8, [o + 1 + 2, o + 2 + 2, 1, 1, 0, 0, 0, 0, 0, 0, 0, 0, 0]), .inl (0, 16384), .inl (0, 16384)]) w
  refine zA_sipush dX9_init_23 rfl ?_
  show zA l mX9_init true 2 2 16399 (qX9 S0 o w) zNo 26 [zR o] [zI 16384, zR o] (S0 ++ [.inr (8, [o + 1 + 2, o + 2 + 2, 1, 1, 0, 0, 0, 0, 0, 0, 0, 0, 0]), .inl (0, 16384), .inl (0, 16384)]) w
  refine zM_newa (t := 0) (n := 16384) (k := 3) (bc2 := 1) (bs2 := 15) (lst2 := [.inr (8, [o + 1 + 2, o + 2 + 2, 1, 1, 0, 0, 0, 0, 0, 0, 0, 0, 0]), .inl (0, 16384), .inl (0, 16384), .inl (0, 16384)]) dX9_init_26 (Or.inl ⟨rfl, rfl⟩) zin_int rfl (by decide) ho rfl rfl (by omega) (fun x => hz _ _ (by omega) (by omega)) ⟨rfl, rfl⟩ ?_
  show zA l mX9_init true 2 1 15 (qX9 S0 o w) zNo 28 [zR o] [zR (o + 3), zR o] (S0 ++ [.inr (8, [o + 1 + 2, o + 2 + 2, 1, 1, 0, 0, 0, 0, 0, 0, 0, 0, 0]), .inl (0, 16384), .inl (0, 16384), .inl (0, 16384)]) w
  refine zM_putFR (lst2 := [.inr (8, [o + 1 + 2, o + 2 + 2, o + 3 + 2, 1, 0, 0, 0, 0, 0, 0, 0, 0, 0]), .inl (0, 16384), .inl (0, 16384), .inl (0, 16384)]) dX9_init_28 fX9_18 rfl zclX9.1 ho rfl (Nat.le_of_ble_eq_true rfl) ⟨fun _ => rfl, fun _ => rfl⟩ rfl ?_
  show zA l mX9_init true 2 1 15 (qX9 S0 o w) zNo 31 [zR o] [] (S0 ++ [.inr (8, [o + 1 + 2, o + 2 + 2, o + 3 + 2, 1, 0, 0, 0, 0, 0, 0, 0, 0, 0]), .inl (0, 16384), .inl (0, 16384), .inl (0, 16384)]) w
  refine zA_aload_n dX9_init_31 rfl ?_
  show zA l mX9_init true 2 1 15 (qX9 S0 o w) zNo 32 [zR o] [zR o] (S0 ++ [.inr (8, [o + 1 + 2, o + 2 + 2, o + 3 + 2, 1, 0, 0, 0, 0, 0, 0, 0, 0, 0]), .inl (0, 16384), .inl (0, 16384), .inl (0, 16384)]) w
  refine zA_bipush dX9_init_32 rfl ?_
  show zA l mX9_init true 2 1 15 (qX9 S0 o w) zNo 34 [zR o] [zI 15, zR o] (S0 ++ [.inr (8, [o + 1 + 2, o + 2 + 2, o + 3 + 2, 1, 0, 0, 0, 0, 0, 0, 0, 0, 0]), .inl (0, 16384), .inl (0, 16384), .inl (0, 16384)]) w
  refine zM_newa (t := 0) (n := 15) (k := 4) (bc2 := 0) (bs2 := 0) (lst2 := [.inr (8, [o + 1 + 2, o + 2 + 2, o + 3 + 2, 1, 0, 0, 0, 0, 0, 0, 0, 0, 0]), .inl (0, 16384), .inl (0, 16384), .inl (0, 16384), .inl (0, 15)]) dX9_init_34 (Or.inl ⟨rfl, rfl⟩) zin_int rfl (by decide) ho rfl rfl (by omega) (fun x => hz _ _ (by omega) (by omega)) ⟨rfl, rfl⟩ ?_
  show zA l mX9_init true 2 0 0 (qX9 S0 o w) zNo 36 [zR o] [zR (o + 4), zR o] (S0 ++ [.inr (8, [o + 1 + 2, o + 2 + 2, o + 3 + 2, 1, 0, 0, 0, 0, 0, 0, 0, 0, 0]), .inl (0, 16384), .inl (0, 16384), .inl (0, 16384), .inl (0, 15)]) w
  refine zM_putFR (lst2 := [.inr (8, [o + 1 + 2, o + 2 + 2, o + 3 + 2, o + 4 + 2, 0, 0, 0, 0, 0, 0, 0, 0, 0]), .inl (0, 16384), .inl (0, 16384), .inl (0, 16384), .inl (0, 15)]) dX9_init_36 fX9_21 rfl zclX9.1 ho rfl (Nat.le_of_ble_eq_true rfl) ⟨fun _ => rfl, fun _ => rfl⟩ rfl ?_
  show zA l mX9_init true 2 0 0 (qX9 S0 o w) zNo 39 [zR o] [] (S0 ++ [.inr (8, [o + 1 + 2, o + 2 + 2, o + 3 + 2, o + 4 + 2, 0, 0, 0, 0, 0, 0, 0, 0, 0]), .inl (0, 16384), .inl (0, 16384), .inl (0, 16384), .inl (0, 15)]) w
  refine zA_aload_n dX9_init_39 rfl ?_
  show zA l mX9_init true 2 0 0 (qX9 S0 o w) zNo 40 [zR o] [zR o] (S0 ++ [.inr (8, [o + 1 + 2, o + 2 + 2, o + 3 + 2, o + 4 + 2, 0, 0, 0, 0, 0, 0, 0, 0, 0]), .inl (0, 16384), .inl (0, 16384), .inl (0, 16384), .inl (0, 15)]) w
  refine zA_iconst dX9_init_40 ?_
  show zA l mX9_init true 2 0 0 (qX9 S0 o w) zNo 41 [zR o] [zI 0, zR o] (S0 ++ [.inr (8, [o + 1 + 2, o + 2 + 2, o + 3 + 2, o + 4 + 2, 0, 0, 0, 0, 0, 0, 0, 0, 0]), .inl (0, 16384), .inl (0, 16384), .inl (0, 16384), .inl (0, 15)]) w
  refine zM_put0 dX9_init_41 fX9_24 ho rfl rfl ⟨rfl, rfl⟩ (hz _ _ (by omega) (by omega)) ?_
  show zA l mX9_init true 2 0 0 (qX9 S0 o w) zNo 44 [zR o] [] (S0 ++ [.inr (8, [o + 1 + 2, o + 2 + 2, o + 3 + 2, o + 4 + 2, 0, 0, 0, 0, 0, 0, 0, 0, 0]), .inl (0, 16384), .inl (0, 16384), .inl (0, 16384), .inl (0, 15)]) w
  refine zA_aload_n dX9_init_44 rfl ?_
  show zA l mX9_init true 2 0 0 (qX9 S0 o w) zNo 45 [zR o] [zR o] (S0 ++ [.inr (8, [o + 1 + 2, o + 2 + 2, o + 3 + 2, o + 4 + 2, 0, 0, 0, 0, 0, 0, 0, 0, 0]), .inl (0, 16384), .inl (0, 16384), .inl (0, 16384), .inl (0, 15)]) w
  refine zA_iconst dX9_init_45 ?_
  show zA l mX9_init true 2 0 0 (qX9 S0 o w) zNo 46 [zR o] [zI 0, zR o] (S0 ++ [.inr (8, [o + 1 + 2, o + 2 + 2, o + 3 + 2, o + 4 + 2, 0, 0, 0, 0, 0, 0, 0, 0, 0]), .inl (0, 16384), .inl (0, 16384), .inl (0, 16384), .inl (0, 15)]) w
  refine zM_put0 dX9_init_46 fX9_28 ho rfl rfl ⟨rfl, rfl⟩ (hz _ _ (by omega) (by omega)) ?_
  show zA l mX9_init true 2 0 0 (qX9 S0 o w) zNo 49 [zR o] [] (S0 ++ [.inr (8, [o + 1 + 2, o + 2 + 2, o + 3 + 2, o + 4 + 2, 0, 0, 0, 0, 0, 0, 0, 0, 0]), .inl (0, 16384), .inl (0, 16384), .inl (0, 16384), .inl (0, 15)]) w
  refine zA_aload_n dX9_init_49 rfl ?_
  show zA l mX9_init true 2 0 0 (qX9 S0 o w) zNo 50 [zR o] [zR o] (S0 ++ [.inr (8, [o + 1 + 2, o + 2 + 2, o + 3 + 2, o + 4 + 2, 0, 0, 0, 0, 0, 0, 0, 0, 0]), .inl (0, 16384), .inl (0, 16384), .inl (0, 16384), .inl (0, 15)]) w
  refine zA_iconst dX9_init_50 ?_
  show zA l mX9_init true 2 0 0 (qX9 S0 o w) zNo 51 [zR o] [zI 0, zR o] (S0 ++ [.inr (8, [o + 1 + 2, o + 2 + 2, o + 3 + 2, o + 4 + 2, 0, 0, 0, 0, 0, 0, 0, 0, 0]), .inl (0, 16384), .inl (0, 16384), .inl (0, 16384), .inl (0, 15)]) w
  refine zM_put0 dX9_init_51 fX9_31 ho rfl rfl ⟨rfl, rfl⟩ (hz _ _ (by omega) (by omega)) ?_
  show zA l mX9_init true 2 0 0 (qX9 S0 o w) zNo 54 [zR o] [] (S0 ++ [.inr (8, [o + 1 + 2, o + 2 + 2, o + 3 + 2, o + 4 + 2, 0, 0, 0, 0, 0, 0, 0, 0, 0]), .inl (0, 16384), .inl (0, 16384), .inl (0, 16384), .inl (0, 15)]) w
  refine zA_aload_n dX9_init_54 rfl ?_
  show zA l mX9_init true 2 0 0 (qX9 S0 o w) zNo 55 [zR o] [zR o] (S0 ++ [.inr (8, [o + 1 + 2, o + 2 + 2, o + 3 + 2, o + 4 + 2, 0, 0, 0, 0, 0, 0, 0, 0, 0]), .inl (0, 16384), .inl (0, 16384), .inl (0, 16384), .inl (0, 15)]) w
  refine zA_iconst dX9_init_55 ?_
  show zA l mX9_init true 2 0 0 (qX9 S0 o w) zNo 56 [zR o] [zI 0, zR o] (S0 ++ [.inr (8, [o + 1 + 2, o + 2 + 2, o + 3 + 2, o + 4 + 2, 0, 0, 0, 0, 0, 0, 0, 0, 0]), .inl (0, 16384), .inl (0, 16384), .inl (0, 16384), .inl (0, 15)]) w
  refine zM_put0 dX9_init_56 fX9_34 ho rfl rfl ⟨rfl, rfl⟩ (hz _ _ (by omega) (by omega)) ?_
  show zA l mX9_init true 2 0 0 (qX9 S0 o w) zNo 59 [zR o] [] (S0 ++ [.inr (8, [o + 1 + 2, o + 2 + 2, o + 3 + 2, o + 4 + 2, 0, 0, 0, 0, 0, 0, 0, 0, 0]), .inl (0, 16384), .inl (0, 16384), .inl (0, 16384), .inl (0, 15)]) w
  refine zA_aload_n dX9_init_59 rfl ?_
  show zA l mX9_init true 2 0 0 (qX9 S0 o w) zNo 60 [zR o] [zR o] (S0 ++ [.inr (8, [o + 1 + 2, o + 2 + 2, o + 3 + 2, o + 4 + 2, 0, 0, 0, 0, 0, 0, 0, 0, 0]), .inl (0, 16384), .inl (0, 16384), .inl (0, 16384), .inl (0, 15)]) w
  refine zA_iconst dX9_init_60 ?_
  show zA l mX9_init true 2 0 0 (qX9 S0 o w) zNo 61 [zR o] [zI 0, zR o] (S0 ++ [.inr (8, [o + 1 + 2, o + 2 + 2, o + 3 + 2, o + 4 + 2, 0, 0, 0, 0, 0, 0, 0, 0, 0]), .inl (0, 16384), .inl (0, 16384), .inl (0, 16384), .inl (0, 15)]) w
  refine zM_put0 dX9_init_61 fX9_38 ho rfl rfl ⟨rfl, rfl⟩ (hz _ _ (by omega) (by omega)) ?_
  show zA l mX9_init true 2 0 0 (qX9 S0 o w) zNo 64 [zR o] [] (S0 ++ [.inr (8, [o + 1 + 2, o + 2 + 2, o + 3 + 2, o + 4 + 2, 0, 0, 0, 0, 0, 0, 0, 0, 0]), .inl (0, 16384), .inl (0, 16384), .inl (0, 16384), .inl (0, 15)]) w
  refine zA_aload_n dX9_init_64 rfl ?_
  show zA l mX9_init true 2 0 0 (qX9 S0 o w) zNo 65 [zR o] [zR o] (S0 ++ [.inr (8, [o + 1 + 2, o + 2 + 2, o + 3 + 2, o + 4 + 2, 0, 0, 0, 0, 0, 0, 0, 0, 0]), .inl (0, 16384), .inl (0, 16384), .inl (0, 16384), .inl (0, 15)]) w
  refine zA_iconst dX9_init_65 ?_
  show zA l mX9_init true 2 0 0 (qX9 S0 o w) zNo 66 [zR o] [zI 0, zR o] (S0 ++ [.inr (8, [o + 1 + 2, o + 2 + 2, o + 3 + 2, o + 4 + 2, 0, 0, 0, 0, 0, 0, 0, 0, 0]), .inl (0, 16384), .inl (0, 16384), .inl (0, 16384), .inl (0, 15)]) w
  refine zM_put0 dX9_init_66 fX9_41 ho rfl rfl ⟨rfl, rfl⟩ (hz _ _ (by omega) (by omega)) ?_
  show zA l mX9_init true 2 0 0 (qX9 S0 o w) zNo 69 [zR o] [] (S0 ++ [.inr (8, [o + 1 + 2, o + 2 + 2, o + 3 + 2, o + 4 + 2, 0, 0, 0, 0, 0, 0, 0, 0, 0]), .inl (0, 16384), .inl (0, 16384), .inl (0, 16384), .inl (0, 15)]) w
  refine zA_aload_n dX9_init_69 rfl ?_
  show zA l mX9_init true 2 0 0 (qX9 S0 o w) zNo 70 [zR o] [zR o] (S0 ++ [.inr (8, [o + 1 + 2, o + 2 + 2, o + 3 + 2, o + 4 + 2, 0, 0, 0, 0, 0, 0, 0, 0, 0]), .inl (0, 16384), .inl (0, 16384), .inl (0, 16384), .inl (0, 15)]) w
  refine zA_iconst dX9_init_70 ?_
  show zA l mX9_init true 2 0 0 (qX9 S0 o w) zNo 71 [zR o] [zI (-1), zR o] (S0 ++ [.inr (8, [o + 1 + 2, o + 2 + 2, o + 3 + 2, o + 4 + 2, 0, 0, 0, 0, 0, 0, 0, 0, 0]), .inl (0, 16384), .inl (0, 16384), .inl (0, 16384), .inl (0, 15)]) w
  refine zM_putI dX9_init_71 fX9_44 ho rfl rfl ⟨by decide, by decide⟩ ⟨rfl, rfl⟩ ?_
  have hw_ : ∀ (cc : Nat) (x : Int), o < cc → (up w o 10 (-1)) cc x = w cc x := fun cc x hc => by rw [up_n (by omega)]
  show zA l mX9_init true 2 0 0 (qX9 S0 o w) zNo 74 [zR o] [] (S0 ++ [.inr (8, [o + 1 + 2, o + 2 + 2, o + 3 + 2, o + 4 + 2, 0, 0, 0, 0, 0, 0, 0, 0, 0]), .inl (0, 16384), .inl (0, 16384), .inl (0, 16384), .inl (0, 15)]) (up w o 10 (-1))
  refine zA_aload_n dX9_init_74 rfl ?_
  show zA l mX9_init true 2 0 0 (qX9 S0 o w) zNo 75 [zR o] [zR o] (S0 ++ [.inr (8, [o + 1 + 2, o + 2 + 2, o + 3 + 2, o + 4 + 2, 0, 0, 0, 0, 0, 0, 0, 0, 0]), .inl (0, 16384), .inl (0, 16384), .inl (0, 16384), .inl (0, 15)]) (up w o 10 (-1))
  refine zA_iconst dX9_init_75 ?_
  show zA l mX9_init true 2 0 0 (qX9 S0 o w) zNo 76 [zR o] [zI (-1), zR o] (S0 ++ [.inr (8, [o + 1 + 2, o + 2 + 2, o + 3 + 2, o + 4 + 2, 0, 0, 0, 0, 0, 0, 0, 0, 0]), .inl (0, 16384), .inl (0, 16384), .inl (0, 16384), .inl (0, 15)]) (up w o 10 (-1))
  refine zM_putI dX9_init_76 fX9_47 ho rfl rfl ⟨by decide, by decide⟩ ⟨rfl, rfl⟩ ?_
  have hw_ : ∀ (cc : Nat) (x : Int), o < cc → (up (up w o 10 (-1)) o 11 (-1)) cc x = w cc x := fun cc x hc => by rw [up_n (by omega), up_n (by omega)]
  show zA l mX9_init true 2 0 0 (qX9 S0 o w) zNo 79 [zR o] [] (S0 ++ [.inr (8, [o + 1 + 2, o + 2 + 2, o + 3 + 2, o + 4 + 2, 0, 0, 0, 0, 0, 0, 0, 0, 0]), .inl (0, 16384), .inl (0, 16384), .inl (0, 16384), .inl (0, 15)]) (up (up w o 10 (-1)) o 11 (-1))
  refine zA_aload_n dX9_init_79 rfl ?_
  show zA l mX9_init true 2 0 0 (qX9 S0 o w) zNo 80 [zR o] [zR o] (S0 ++ [.inr (8, [o + 1 + 2, o + 2 + 2, o + 3 + 2, o + 4 + 2, 0, 0, 0, 0, 0, 0, 0, 0, 0]), .inl (0, 16384), .inl (0, 16384), .inl (0, 16384), .inl (0, 15)]) (up (up w o 10 (-1)) o 11 (-1))
  refine zA_iconst dX9_init_80 ?_
  show zA l mX9_init true 2 0 0 (qX9 S0 o w) zNo 81 [zR o] [zI 0, zR o] (S0 ++ [.inr (8, [o + 1 + 2, o + 2 + 2, o + 3 + 2, o + 4 + 2, 0, 0, 0, 0, 0, 0, 0, 0, 0]), .inl (0, 16384), .inl (0, 16384), .inl (0, 16384), .inl (0, 15)]) (up (up w o 10 (-1)) o 11 (-1))
  refine zM_put0 dX9_init_81 fX9_50 ho rfl rfl ⟨rfl, rfl⟩ (by rw [up_n (by omega), up_n (by omega)]; exact hz _ _ (by omega) (by omega)) ?_
  show zA l mX9_init true 2 0 0 (qX9 S0 o w) zNo 84 [zR o] [] (S0 ++ [.inr (8, [o + 1 + 2, o + 2 + 2, o + 3 + 2, o + 4 + 2, 0, 0, 0, 0, 0, 0, 0, 0, 0]), .inl (0, 16384), .inl (0, 16384), .inl (0, 16384), .inl (0, 15)]) (up (up w o 10 (-1)) o 11 (-1))
  exact zA_vret dX9_init_84 rfl ⟨rfl, rfl, rfl⟩
def qX2 (S0 : zS) (o : Nat) (w : zW) : Option Value → zS → zW → Prop := fun v' S' w' => v' = none ∧ S' = S0 ++ [.inr (1, [o + 1 + 2, 0, o + 2 + 2, o + 3 + 2, o + 4 + 2]), .inl (0, 10), .inl (0, 1024), .inl (0, 1024), .inl (0, 2613)] ∧ w' = w
theorem jX2 : zMI mX2_init 0 := ⟨iX2_init, rfl, rfl, rfl, by decide, by decide +kernel, by decide +kernel, by decide +kernel⟩
set_option maxRecDepth 100000 in
set_option maxHeartbeats 4000000 in
theorem n_X2 {l : Launch} {S0 : zS} {w : zW} {o : Nat} (ho : S0.length = o) (hl : o < 900) (hz : ∀ (c : Nat) (x : Int), o ≤ c → c < o + 5 → w c x = 0) : zSp l mX2_init true 2 4 4671 [zR o] (S0 ++ [.inr (1, [1, 0, 1, 1, 1])]) w (qX2 S0 o w) zNo := by
  refine zA_intro ⟨plainFor_of_name (by decide +kernel), Or.inl (by decide +kernel)⟩ rfl (Nat.le_of_ble_eq_true rfl) ?_
  show zA l mX2_init true 2 4 4671 (qX2 S0 o w) zNo 0 [zR o] [] (S0 ++ [.inr (1, [1, 0, 1, 1, 1])]) w
  refine zA_aload_n dX2_init_0 rfl ?_
  show zA l mX2_init true 2 4 4671 (qX2 S0 o w) zNo 1 [zR o] [zR o] (S0 ++ [.inr (1, [1, 0, 1, 1, 1])]) w
  refine zN_objInit dX2_init_1 koX2_5 zin_oi zin_oc (by simp) ?_
  show zA l mX2_init true 2 4 4671 (qX2 S0 o w) zNo 4 [zR o] [] (S0 ++ [.inr (1, [1, 0, 1, 1, 1])]) w
  refine zA_aload_n dX2_init_4 rfl ?_
  show zA l mX2_init true 2 4 4671 (qX2 S0 o w) zNo 5 [zR o] [zR o] (S0 ++ [.inr (1, [1, 0, 1, 1, 1])]) w
  refine zA_bipush dX2_init_5 rfl ?_
  show zA l mX2_init true 2 4 4671 (qX2 S0 o w) zNo 7 [zR o] [zI 10, zR o] (S0 ++ [.inr (1, [1, 0, 1, 1, 1])]) w
  refine zM_newa (t := 0) (n := 10) (k := 1) (bc2 := 3) (bs2 := 4661) (lst2 := [.inr (1, [1, 0, 1, 1, 1]), .inl (0, 10)]) dX2_init_7 (Or.inl ⟨rfl, rfl⟩) zin_int rfl (by decide) ho rfl rfl (by omega) (fun x => hz _ _ (by omega) (by omega)) ⟨rfl, rfl⟩ ?_
  show zA l mX2_init true 2 3 4661 (qX2 S0 o w) zNo 9 [zR o] [zR (o + 1), zR o] (S0 ++ [.inr (1, [1, 0, 1, 1, 1]), .inl (0, 10)]) w
  refine zM_putFR (lst2 := [.inr (1, [o + 1 + 2, 0, 1, 1, 1]), .inl (0, 10)]) dX2_init_9 fX2_11 rfl zclX2.1 ho rfl (Nat.le_of_ble_eq_true rfl) ⟨fun _ => rfl, fun _ => rfl⟩ rfl ?_
  show zA l mX2_init true 2 3 4661 (qX2 S0 o w) zNo 12 [zR o] [] (S0 ++ [.inr (1, [o + 1 + 2, 0, 1, 1, 1]), .inl (0, 10)]) w
  refine zA_aload_n dX2_init_12 rfl ?_
  show zA l mX2_init true 2 3 4661 (qX2 S0 o w) zNo 13 [zR o] [zR o] (S0 ++ [.inr (1, [o + 1 + 2, 0, 1, 1, 1]), .inl (0, 10)]) w
  refine zA_iconst dX2_init_13 ?_
  show zA l mX2_init true 2 3 4661 (qX2 S0 o w) zNo 14 [zR o] [zI 0, zR o] (S0 ++ [.inr (1, [o + 1 + 2, 0, 1, 1, 1]), .inl (0, 10)]) w
  refine zM_put0 dX2_init_14 fX2_15 ho rfl rfl ⟨rfl, rfl⟩ (hz _ _ (by omega) (by omega)) ?_
  show zA l mX2_init true 2 3 4661 (qX2 S0 o w) zNo 17 [zR o] [] (S0 ++ [.inr (1, [o + 1 + 2, 0, 1, 1, 1]), .inl (0, 10)]) w
  refine zA_aload_n dX2_init_17 rfl ?_
  show zA l mX2_init true 2 3 4661 (qX2 S0 o w) zNo 18 [zR o] [zR o] (S0 ++ [.inr (1, [o + 1 + 2, 0, 1, 1, 1]), .inl (0, 10)]) w
  refine zA_sipush dX2_init_18 rfl ?_
  show zA l mX2_init true 2 3 4661 (qX2 S0 o w) zNo 21 [zR o] [zI 1024, zR o] (S0 ++ [.inr (1, [o + 1 + 2, 0, 1, 1, 1]), .inl (0, 10)]) w
  refine zM_newa (t := 0) (n := 1024) (k := 2) (bc2 := 2) (bs2 := 3637) (lst2 := [.inr (1, [o + 1 + 2, 0, 1, 1, 1]), .inl (0, 10), .inl (0, 1024)]) dX2_init_21 (Or.inl ⟨rfl, rfl⟩) zin_int rfl (by decide) ho rfl rfl (by omega) (fun x => hz _ _ (by omega) (by omega)) ⟨rfl, rfl⟩ ?_
  show zA l mX2_init true 2 2 3637 (qX2 S0 o w) zNo 23 [zR o] [zR (o + 2), zR o] (S0 ++ [.inr (1, [o + 1 + 2, 0, 1, 1, 1]), .inl (0, 10), .inl (0, 1024)]) w
  refine zM_putFR (lst2 := [.inr (1, [o + 1 + 2, 0, o + 2 + 2, 1, 1]), .inl (0, 10), .inl (0, 1024)]) dX2_init_23 fX2_19 rfl zclX2.1 ho rfl (Nat.le_of_ble_eq_true rfl) ⟨fun _ => rfl, fun _ => rfl⟩ rfl ?_
  show zA l mX2_init true 2 2 3637 (qX2 S0 o w) zNo 26 [zR o] [] (S0 ++ [.inr (1, [o + 1 + 2, 0, o + 2 + 2, 1, 1]), .inl (0, 10), .inl (0, 1024)]) w
  refine zA_aload_n dX2_init_26 rfl ?_
  show zA l mX2_init true 2 2 3637 (qX2 S0 o w) zNo 27 [zR o] [zR o] (S0 ++ [.inr (1, [o + 1 + 2, 0, o + 2 + 2, 1, 1]), .inl (0, 10), .inl (0, 1024)]) w
  refine zA_sipush dX2_init_27 rfl ?_
  show zA l mX2_init true 2 2 3637 (qX2 S0 o w) zNo 30 [zR o] [zI 1024, zR o] (S0 ++ [.inr (1, [o + 1 + 2, 0, o + 2 + 2, 1, 1]), .inl (0, 10), .inl (0, 1024)]) w
  refine zM_newa (t := 0) (n := 1024) (k := 3) (bc2 := 1) (bs2 := 2613) (lst2 := [.inr (1, [o + 1 + 2, 0, o + 2 + 2, 1, 1]), .inl (0, 10), .inl (0, 1024), .inl (0, 1024)]) dX2_init_30 (Or.inl ⟨rfl, rfl⟩) zin_int rfl (by decide) ho rfl rfl (by omega) (fun x => hz _ _ (by omega) (by omega)) ⟨rfl, rfl⟩ ?_
  show zA l mX2_init true 2 1 2613 (qX2 S0 o w) zNo 32 [zR o] [zR (o + 3), zR o] (S0 ++ [.inr (1, [o + 1 + 2, 0, o + 2 + 2, 1, 1]), .inl (0, 10), .inl (0, 1024), .inl (0, 1024)]) w
  refine zM_putFR (lst2 := [.inr (1, [o + 1 + 2, 0, o + 2 + 2, o + 3 + 2, 1]), .inl (0, 10), .inl (0, 1024), .inl (0, 1024)]) dX2_init_32 fX2_22 rfl zclX2.1 ho rfl (Nat.le_of_ble_eq_true rfl) ⟨fun _ => rfl, fun _ => rfl⟩ rfl ?_
  show zA l mX2_init true 2 1 2613 (qX2 S0 o w) zNo 35 [zR o] [] (S0 ++ [.inr (1, [o + 1 + 2, 0, o + 2 + 2, o + 3 + 2, 1]), .inl (0, 10), .inl (0, 1024), .inl (0, 1024)]) w
  refine zA_aload_n dX2_init_35 rfl ?_
  show zA l mX2_init true 2 1 2613 (qX2 S0 o w) zNo 36 [zR o] [zR o] (S0 ++ [.inr (1, [o + 1 + 2, 0, o + 2 + 2, o + 3 + 2, 1]), .inl (0, 10), .inl (0, 1024), .inl (0, 1024)]) w
  refine zA_sipush dX2_init_36 rfl ?_
  show zA l mX2_init true 2 1 2613 (qX2 S0 o w) zNo 39 [zR o] [zI 2613, zR o] (S0 ++ [.inr (1, [o + 1 + 2, 0, o + 2 + 2, o + 3 + 2, 1]), .inl (0, 10), .inl (0, 1024), .inl (0, 1024)]) w
  refine zM_newa (t := 0) (n := 2613) (k := 4) (bc2 := 0) (bs2 := 0) (lst2 := [.inr (1, [o + 1 + 2, 0, o + 2 + 2, o + 3 + 2, 1]), .inl (0, 10), .inl (0, 1024), .inl (0, 1024), .inl (0, 2613)]) dX2_init_39 (Or.inl ⟨rfl, rfl⟩) zin_int rfl (by decide) ho rfl rfl (by omega) (fun x => hz _ _ (by omega) (by omega)) ⟨rfl, rfl⟩ ?_
  show zA l mX2_init true 2 0 0 (qX2 S0 o w) zNo 41 [zR o] [zR (o + 4), zR o] (S0 ++ [.inr (1, [o + 1 + 2, 0, o + 2 + 2, o + 3 + 2, 1]), .inl (0, 10), .inl (0, 1024), .inl (0, 1024), .inl (0, 2613)]) w
  refine zM_putFR (lst2 := [.inr (1, [o + 1 + 2, 0, o + 2 + 2, o + 3 + 2, o + 4 + 2]), .inl (0, 10), .inl (0, 1024), .inl (0, 1024), .inl (0, 2613)]) dX2_init_41 fX2_25 rfl zclX2.1 ho rfl (Nat.le_of_ble_eq_true rfl) ⟨fun _ => rfl, fun _ => rfl⟩ rfl ?_
  show zA l mX2_init true 2 0 0 (qX2 S0 o w) zNo 44 [zR o] [] (S0 ++ [.inr (1, [o + 1 + 2, 0, o + 2 + 2, o + 3 + 2, o + 4 + 2]), .inl (0, 10), .inl (0, 1024), .inl (0, 1024), .inl (0, 2613)]) w
  exact zA_vret dX2_init_44 rfl ⟨rfl, rfl, rfl⟩
def qX0 (S0 : zS) (o : Nat) (w : zW) : Option Value → zS → zW → Prop := fun v' S' w' => v' = none ∧ S' = S0 ++ [.inr (0, [o + 1 + 2, 0, o + 2 + 2, o + 3 + 2, 0, o + 4 + 2, 0]), .inl (0, 20), .inl (0, 360), .inl (0, 7), .inl (0, 50)] ∧ w' = up w o 4 6
theorem jX0 : zMI mX0_init 0 := ⟨iX0_init, rfl, rfl, rfl, by decide, by decide +kernel, by decide +kernel, by decide +kernel⟩
set_option maxRecDepth 100000 in
set_option maxHeartbeats 4000000 in
theorem n_X0 {l : Launch} {S0 : zS} {w : zW} {o : Nat} (ho : S0.length = o) (hl : o < 900) (hz : ∀ (c : Nat) (x : Int), o ≤ c → c < o + 5 → w c x = 0) : zSp l mX0_init true 2 4 437 [zR o] (S0 ++ [.inr (0, [1, 0, 1, 1, 0, 1, 0])]) w (qX0 S0 o w) zNo := by
  refine zA_intro ⟨plainFor_of_name (by decide +kernel), Or.inl (by decide +kernel)⟩ rfl (Nat.le_of_ble_eq_true rfl) ?_
  show zA l mX0_init true 2 4 437 (qX0 S0 o w) zNo 0 [zR o] [] (S0 ++ [.inr (0, [1, 0, 1, 1, 0, 1, 0])]) w
  refine zA_aload_n dX0_init_0 rfl ?_
  show zA l mX0_init true 2 4 437 (qX0 S0 o w) zNo 1 [zR o] [zR o] (S0 ++ [.inr (0, [1, 0, 1, 1, 0, 1, 0])]) w
  refine zN_objInit dX0_init_1 koX0_3 zin_oi zin_oc (by simp) ?_
  show zA l mX0_init true 2 4 437 (qX0 S0 o w) zNo 4 [zR o] [] (S0 ++ [.inr (0, [1, 0, 1, 1, 0, 1, 0])]) w
  refine zA_aload_n dX0_init_4 rfl ?_
  show zA l mX0_init true 2 4 437 (qX0 S0 o w) zNo 5 [zR o] [zR o] (S0 ++ [.inr (0, [1, 0, 1, 1, 0, 1, 0])]) w
  refine zA_bipush dX0_init_5 rfl ?_
  show zA l mX0_init true 2 4 437 (qX0 S0 o w) zNo 7 [zR o] [zI 20, zR o] (S0 ++ [.inr (0, [1, 0, 1, 1, 0, 1, 0])]) w
  refine zM_newa (t := 0) (n := 20) (k := 1) (bc2 := 3) (bs2 := 417) (lst2 := [.inr (0, [1, 0, 1, 1, 0, 1, 0]), .inl (0, 20)]) dX0_init_7 (Or.inl ⟨rfl, rfl⟩) zin_int rfl (by decide) ho rfl rfl (by omega) (fun x => hz _ _ (by omega) (by omega)) ⟨rfl, rfl⟩ ?_
  show zA l mX0_init true 2 3 417 (qX0 S0 o w) zNo 9 [zR o] [zR (o + 1), zR o] (S0 ++ [.inr (0, [1, 0, 1, 1, 0, 1, 0]), .inl (0, 20)]) w
  refine zM_putFR (lst2 := [.inr (0, [o + 1 + 2, 0, 1, 1, 0, 1, 0]), .inl (0, 20)]) dX0_init_9 fX0_11 rfl zclX0.1 ho rfl (Nat.le_of_ble_eq_true rfl) ⟨fun _ => rfl, fun _ => rfl⟩ rfl ?_
  show zA l mX0_init true 2 3 417 (qX0 S0 o w) zNo 12 [zR o] [] (S0 ++ [.inr (0, [o + 1 + 2, 0, 1, 1, 0, 1, 0]), .inl (0, 20)]) w
  refine zA_aload_n dX0_init_12 rfl ?_
  show zA l mX0_init true 2 3 417 (qX0 S0 o w) zNo 13 [zR o] [zR o] (S0 ++ [.inr (0, [o + 1 + 2, 0, 1, 1, 0, 1, 0]), .inl (0, 20)]) w
  refine zA_iconst dX0_init_13 ?_
  show zA l mX0_init true 2 3 417 (qX0 S0 o w) zNo 14 [zR o] [zI 0, zR o] (S0 ++ [.inr (0, [o + 1 + 2, 0, 1, 1, 0, 1, 0]), .inl (0, 20)]) w
  refine zM_put0 dX0_init_14 fX0_15 ho rfl rfl ⟨rfl, rfl⟩ (hz _ _ (by omega) (by omega)) ?_
  show zA l mX0_init true 2 3 417 (qX0 S0 o w) zNo 17 [zR o] [] (S0 ++ [.inr (0, [o + 1 + 2, 0, 1, 1, 0, 1, 0]), .inl (0, 20)]) w
  refine zA_aload_n dX0_init_17 rfl ?_
  show zA l mX0_init true 2 3 417 (qX0 S0 o w) zNo 18 [zR o] [zR o] (S0 ++ [.inr (0, [o + 1 + 2, 0, 1, 1, 0, 1, 0]), .inl (0, 20)]) w
  refine zA_sipush dX0_init_18 rfl ?_
  show zA l mX0_init true 2 3 417 (qX0 S0 o w) zNo 21 [zR o] [zI 360, zR o] (S0 ++ [.inr (0, [o + 1 + 2, 0, 1, 1, 0, 1, 0]), .inl (0, 20)]) w
  refine zM_newa (t := 0) (n := 360) (k := 2) (bc2 := 2) (bs2 := 57) (lst2 := [.inr (0, [o + 1 + 2, 0, 1, 1, 0, 1, 0]), .inl (0, 20), .inl (0, 360)]) dX0_init_21 (Or.inl ⟨rfl, rfl⟩) zin_int rfl (by decide) ho rfl rfl (by omega) (fun x => hz _ _ (by omega) (by omega)) ⟨rfl, rfl⟩ ?_
  show zA l mX0_init true 2 2 57 (qX0 S0 o w) zNo 23 [zR o] [zR (o + 2), zR o] (S0 ++ [.inr (0, [o + 1 + 2, 0, 1, 1, 0, 1, 0]), .inl (0, 20), .inl (0, 360)]) w
  refine zM_putFR (lst2 := [.inr (0, [o + 1 + 2, 0, o + 2 + 2, 1, 0, 1, 0]), .inl (0, 20), .inl (0, 360)]) dX0_init_23 fX0_19 rfl zclX0.1 ho rfl (Nat.le_of_ble_eq_true rfl) ⟨fun _ => rfl, fun _ => rfl⟩ rfl ?_
  show zA l mX0_init true 2 2 57 (qX0 S0 o w) zNo 26 [zR o] [] (S0 ++ [.inr (0, [o + 1 + 2, 0, o + 2 + 2, 1, 0, 1, 0]), .inl (0, 20), .inl (0, 360)]) w
  refine zA_aload_n dX0_init_26 rfl ?_
  show zA l mX0_init true 2 2 57 (qX0 S0 o w) zNo 27 [zR o] [zR o] (S0 ++ [.inr (0, [o + 1 + 2, 0, o + 2 + 2, 1, 0, 1, 0]), .inl (0, 20), .inl (0, 360)]) w
  refine zA_bipush dX0_init_27 rfl ?_
  show zA l mX0_init true 2 2 57 (qX0 S0 o w) zNo 29 [zR o] [zI 7, zR o] (S0 ++ [.inr (0, [o + 1 + 2, 0, o + 2 + 2, 1, 0, 1, 0]), .inl (0, 20), .inl (0, 360)]) w
  refine zM_newa (t := 0) (n := 7) (k := 3) (bc2 := 1) (bs2 := 50) (lst2 := [.inr (0, [o + 1 + 2, 0, o + 2 + 2, 1, 0, 1, 0]), .inl (0, 20), .inl (0, 360), .inl (0, 7)]) dX0_init_29 (Or.inl ⟨rfl, rfl⟩) zin_int rfl (by decide) ho rfl rfl (by omega) (fun x => hz _ _ (by omega) (by omega)) ⟨rfl, rfl⟩ ?_
  show zA l mX0_init true 2 1 50 (qX0 S0 o w) zNo 31 [zR o] [zR (o + 3), zR o] (S0 ++ [.inr (0, [o + 1 + 2, 0, o + 2 + 2, 1, 0, 1, 0]), .inl (0, 20), .inl (0, 360), .inl (0, 7)]) w
  refine zM_putFR (lst2 := [.inr (0, [o + 1 + 2, 0, o + 2 + 2, o + 3 + 2, 0, 1, 0]), .inl (0, 20), .inl (0, 360), .inl (0, 7)]) dX0_init_31 fX0_22 rfl zclX0.1 ho rfl (Nat.le_of_ble_eq_true rfl) ⟨fun _ => rfl, fun _ => rfl⟩ rfl ?_
  show zA l mX0_init true 2 1 50 (qX0 S0 o w) zNo 34 [zR o] [] (S0 ++ [.inr (0, [o + 1 + 2, 0, o + 2 + 2, o + 3 + 2, 0, 1, 0]), .inl (0, 20), .inl (0, 360), .inl (0, 7)]) w
  refine zA_aload_n dX0_init_34 rfl ?_
  show zA l mX0_init true 2 1 50 (qX0 S0 o w) zNo 35 [zR o] [zR o] (S0 ++ [.inr (0, [o + 1 + 2, 0, o + 2 + 2, o + 3 + 2, 0, 1, 0]), .inl (0, 20), .inl (0, 360), .inl (0, 7)]) w
  refine zA_bipush dX0_init_35 rfl ?_
  show zA l mX0_init true 2 1 50 (qX0 S0 o w) zNo 37 [zR o] [zI 6, zR o] (S0 ++ [.inr (0, [o + 1 + 2, 0, o + 2 + 2, o + 3 + 2, 0, 1, 0]), .inl (0, 20), .inl (0, 360), .inl (0, 7)]) w
  refine zM_putI dX0_init_37 fX0_25 ho rfl rfl ⟨by decide, by decide⟩ ⟨rfl, rfl⟩ ?_
  have hw_ : ∀ (cc : Nat) (x : Int), o < cc → (up w o 4 6) cc x = w cc x := fun cc x hc => by rw [up_n (by omega)]
  show zA l mX0_init true 2 1 50 (qX0 S0 o w) zNo 40 [zR o] [] (S0 ++ [.inr (0, [o + 1 + 2, 0, o + 2 + 2, o + 3 + 2, 0, 1, 0]), .inl (0, 20), .inl (0, 360), .inl (0, 7)]) (up w o 4 6)
  refine zA_aload_n dX0_init_40 rfl ?_
  show zA l mX0_init true 2 1 50 (qX0 S0 o w) zNo 41 [zR o] [zR o] (S0 ++ [.inr (0, [o + 1 + 2, 0, o + 2 + 2, o + 3 + 2, 0, 1, 0]), .inl (0, 20), .inl (0, 360), .inl (0, 7)]) (up w o 4 6)
  refine zA_bipush dX0_init_41 rfl ?_
  show zA l mX0_init true 2 1 50 (qX0 S0 o w) zNo 43 [zR o] [zI 50, zR o] (S0 ++ [.inr (0, [o + 1 + 2, 0, o + 2 + 2, o + 3 + 2, 0, 1, 0]), .inl (0, 20), .inl (0, 360), .inl (0, 7)]) (up w o 4 6)
  refine zM_newa (t := 0) (n := 50) (k := 4) (bc2 := 0) (bs2 := 0) (lst2 := [.inr (0, [o + 1 + 2, 0, o + 2 + 2, o + 3 + 2, 0, 1, 0]), .inl (0, 20), .inl (0, 360), .inl (0, 7), .inl (0, 50)]) dX0_init_43 (Or.inl ⟨rfl, rfl⟩) zin_int rfl (by decide) ho rfl rfl (by omega) (fun x => by rw [hw_ (o + 4) x (by omega)]; exact hz _ _ (by omega) (by omega)) ⟨rfl, rfl⟩ ?_
  show zA l mX0_init true 2 0 0 (qX0 S0 o w) zNo 45 [zR o] [zR (o + 4), zR o] (S0 ++ [.inr (0, [o + 1 + 2, 0, o + 2 + 2, o + 3 + 2, 0, 1, 0]), .inl (0, 20), .inl (0, 360), .inl (0, 7), .inl (0, 50)]) (up w o 4 6)
  refine zM_putFR (lst2 := [.inr (0, [o + 1 + 2, 0, o + 2 + 2, o + 3 + 2, 0, o + 4 + 2, 0]), .inl (0, 20), .inl (0, 360), .inl (0, 7), .inl (0, 50)]) dX0_init_45 fX0_28 rfl zclX0.1 ho rfl (Nat.le_of_ble_eq_true rfl) ⟨fun _ => rfl, fun _ => rfl⟩ rfl ?_
  show zA l mX0_init true 2 0 0 (qX0 S0 o w) zNo 48 [zR o] [] (S0 ++ [.inr (0, [o + 1 + 2, 0, o + 2 + 2, o + 3 + 2, 0, o + 4 + 2, 0]), .inl (0, 20), .inl (0, 360), .inl (0, 7), .inl (0, 50)]) (up w o 4 6)
  refine zA_aload_n dX0_init_48 rfl ?_
  show zA l mX0_init true 2 0 0 (qX0 S0 o w) zNo 49 [zR o] [zR o] (S0 ++ [.inr (0, [o + 1 + 2, 0, o + 2 + 2, o + 3 + 2, 0, o + 4 + 2, 0]), .inl (0, 20), .inl (0, 360), .inl (0, 7), .inl (0, 50)]) (up w o 4 6)
  refine zA_iconst dX0_init_49 ?_
  show zA l mX0_init true 2 0 0 (qX0 S0 o w) zNo 50 [zR o] [zI 0, zR o] (S0 ++ [.inr (0, [o + 1 + 2, 0, o + 2 + 2, o + 3 + 2, 0, o + 4 + 2, 0]), .inl (0, 20), .inl (0, 360), .inl (0, 7), .inl (0, 50)]) (up w o 4 6)
  refine zM_put0 dX0_init_50 fX0_31 ho rfl rfl ⟨rfl, rfl⟩ (by rw [up_n (by omega)]; exact hz _ _ (by omega) (by omega)) ?_
  show zA l mX0_init true 2 0 0 (qX0 S0 o w) zNo 53 [zR o] [] (S0 ++ [.inr (0, [o + 1 + 2, 0, o + 2 + 2, o + 3 + 2, 0, o + 4 + 2, 0]), .inl (0, 20), .inl (0, 360), .inl (0, 7), .inl (0, 50)]) (up w o 4 6)
  exact zA_vret dX0_init_53 rfl ⟨rfl, rfl, rfl⟩
def qX3 (S0 : zS) (o : Nat) (w : zW) : Option Value → zS → zW → Prop := fun v' S' w' => v' = none ∧ S' = S0 ++ [.inr (2, [o + 1 + 2, o + 2 + 2, o + 3 + 2, o + 4 + 2, o + 5 + 2, o + 6 + 2, o + 7 + 2]), .inl (0, 96), .inl (0, 96), .inl (0, 96), .inl (0, 96), .inl (0, 12), .inl (0, 12), .inl (0, 200)] ∧ w' = w
theorem jX3 : zMI mX3_init 0 := ⟨iX3_init, rfl, rfl, rfl, by decide, by decide +kernel, by decide +kernel, by decide +kernel⟩
set_option maxRecDepth 100000 in
set_option maxHeartbeats 4000000 in
theorem n_X3 {l : Launch} {S0 : zS} {w : zW} {o : Nat} (ho : S0.length = o) (hl : o < 900) (hz : ∀ (c : Nat) (x : Int), o ≤ c → c < o + 8 → w c x = 0) : zSp l mX3_init true 2 7 608 [zR o] (S0 ++ [.inr (2, [1, 1, 1, 1, 1, 1, 1])]) w (qX3 S0 o w) zNo := by
  refine zA_intro ⟨plainFor_of_name (by decide +kernel), Or.inl (by decide +kernel)⟩ rfl (Nat.le_of_ble_eq_true rfl) ?_
  show zA l mX3_init true 2 7 608 (qX3 S0 o w) zNo 0 [zR o] [] (S0 ++ [.inr (2, [1, 1, 1, 1, 1, 1, 1])]) w
  refine zA_aload_n dX3_init_0 rfl ?_
  show zA l mX3_init true 2 7 608 (qX3 S0 o w) zNo 1 [zR o] [zR o] (S0 ++ [.inr (2, [1, 1, 1, 1, 1, 1, 1])]) w
  refine zN_objInit dX3_init_1 koX3_3 zin_oi zin_oc (by simp) ?_
  show zA l mX3_init true 2 7 608 (qX3 S0 o w) zNo 4 [zR o] [] (S0 ++ [.inr (2, [1, 1, 1, 1, 1, 1, 1])]) w
  refine zA_aload_n dX3_init_4 rfl ?_
  show zA l mX3_init true 2 7 608 (qX3 S0 o w) zNo 5 [zR o] [zR o] (S0 ++ [.inr (2, [1, 1, 1, 1, 1, 1, 1])]) w
  refine zA_bipush dX3_init_5 rfl ?_
  show zA l mX3_init true 2 7 608 (qX3 S0 o w) zNo 7 [zR o] [zI 96, zR o] (S0 ++ [.inr (2, [1, 1, 1, 1, 1, 1, 1])]) w
  refine zM_newa (t := 0) (n := 96) (k := 1) (bc2 := 6) (bs2 := 512) (lst2 := [.inr (2, [1, 1, 1, 1, 1, 1, 1]), .inl (0, 96)]) dX3_init_7 (Or.inl ⟨rfl, rfl⟩) zin_int rfl (by decide) ho rfl rfl (by omega) (fun x => hz _ _ (by omega) (by omega)) ⟨rfl, rfl⟩ ?_
  show zA l mX3_init true 2 6 512 (qX3 S0 o w) zNo 9 [zR o] [zR (o + 1), zR o] (S0 ++ [.inr (2, [1, 1, 1, 1, 1, 1, 1]), .inl (0, 96)]) w
  refine zM_putFR (lst2 := [.inr (2, [o + 1 + 2, 1, 1, 1, 1, 1, 1]), .inl (0, 96)]) dX3_init_9 fX3_11 rfl zclX3.1 ho rfl (Nat.le_of_ble_eq_true rfl) ⟨fun _ => rfl, fun _ => rfl⟩ rfl ?_
  show zA l mX3_init true 2 6 512 (qX3 S0 o w) zNo 12 [zR o] [] (S0 ++ [.inr (2, [o + 1 + 2, 1, 1, 1, 1, 1, 1]), .inl (0, 96)]) w
  refine zA_aload_n dX3_init_12 rfl ?_
  show zA l mX3_init true 2 6 512 (qX3 S0 o w) zNo 13 [zR o] [zR o] (S0 ++ [.inr (2, [o + 1 + 2, 1, 1, 1, 1, 1, 1]), .inl (0, 96)]) w
  refine zA_bipush dX3_init_13 rfl ?_
  show zA l mX3_init true 2 6 512 (qX3 S0 o w) zNo 15 [zR o] [zI 96, zR o] (S0 ++ [.inr (2, [o + 1 + 2, 1, 1, 1, 1, 1, 1]), .inl (0, 96)]) w
  refine zM_newa (t := 0) (n := 96) (k := 2) (bc2 := 5) (bs2 := 416) (lst2 := [.inr (2, [o + 1 + 2, 1, 1, 1, 1, 1, 1]), .inl (0, 96), .inl (0, 96)]) dX3_init_15 (Or.inl ⟨rfl, rfl⟩) zin_int rfl (by decide) ho rfl rfl (by omega) (fun x => hz _ _ (by omega) (by omega)) ⟨rfl, rfl⟩ ?_
  show zA l mX3_init true 2 5 416 (qX3 S0 o w) zNo 17 [zR o] [zR (o + 2), zR o] (S0 ++ [.inr (2, [o + 1 + 2, 1, 1, 1, 1, 1, 1]), .inl (0, 96), .inl (0, 96)]) w
  refine zM_putFR (lst2 := [.inr (2, [o + 1 + 2, o + 2 + 2, 1, 1, 1, 1, 1]), .inl (0, 96), .inl (0, 96)]) dX3_init_17 fX3_15 rfl zclX3.1 ho rfl (Nat.le_of_ble_eq_true rfl) ⟨fun _ => rfl, fun _ => rfl⟩ rfl ?_
  show zA l mX3_init true 2 5 416 (qX3 S0 o w) zNo 20 [zR o] [] (S0 ++ [.inr (2, [o + 1 + 2, o + 2 + 2, 1, 1, 1, 1, 1]), .inl (0, 96), .inl (0, 96)]) w
  refine zA_aload_n dX3_init_20 rfl ?_
  show zA l mX3_init true 2 5 416 (qX3 S0 o w) zNo 21 [zR o] [zR o] (S0 ++ [.inr (2, [o + 1 + 2, o + 2 + 2, 1, 1, 1, 1, 1]), .inl (0, 96), .inl (0, 96)]) w
  refine zA_bipush dX3_init_21 rfl ?_
  show zA l mX3_init true 2 5 416 (qX3 S0 o w) zNo 23 [zR o] [zI 96, zR o] (S0 ++ [.inr (2, [o + 1 + 2, o + 2 + 2, 1, 1, 1, 1, 1]), .inl (0, 96), .inl (0, 96)]) w
  refine zM_newa (t := 0) (n := 96) (k := 3) (bc2 := 4) (bs2 := 320) (lst2 := [.inr (2, [o + 1 + 2, o + 2 + 2, 1, 1, 1, 1, 1]), .inl (0, 96), .inl (0, 96), .inl (0, 96)]) dX3_init_23 (Or.inl ⟨rfl, rfl⟩) zin_int rfl (by decide) ho rfl rfl (by omega) (fun x => hz _ _ (by omega) (by omega)) ⟨rfl, rfl⟩ ?_
  show zA l mX3_init true 2 4 320 (qX3 S0 o w) zNo 25 [zR o] [zR (o + 3), zR o] (S0 ++ [.inr (2, [o + 1 + 2, o + 2 + 2, 1, 1, 1, 1, 1]), .inl (0, 96), .inl (0, 96), .inl (0, 96)]) w
  refine zM_putFR (lst2 := [.inr (2, [o + 1 + 2, o + 2 + 2, o + 3 + 2, 1, 1, 1, 1]), .inl (0, 96), .inl (0, 96), .inl (0, 96)]) dX3_init_25 fX3_18 rfl zclX3.1 ho rfl (Nat.le_of_ble_eq_true rfl) ⟨fun _ => rfl, fun _ => rfl⟩ rfl ?_
  show zA l mX3_init true 2 4 320 (qX3 S0 o w) zNo 28 [zR o] [] (S0 ++ [.inr (2, [o + 1 + 2, o + 2 + 2, o + 3 + 2, 1, 1, 1, 1]), .inl (0, 96), .inl (0, 96), .inl (0, 96)]) w
  refine zA_aload_n dX3_init_28 rfl ?_
  show zA l mX3_init true 2 4 320 (qX3 S0 o w) zNo 29 [zR o] [zR o] (S0 ++ [.inr (2, [o + 1 + 2, o + 2 + 2, o + 3 + 2, 1, 1, 1, 1]), .inl (0, 96), .inl (0, 96), .inl (0, 96)]) w
  refine zA_bipush dX3_init_29 rfl ?_
  show zA l mX3_init true 2 4 320 (qX3 S0 o w) zNo 31 [zR o] [zI 96, zR o] (S0 ++ [.inr (2, [o + 1 + 2, o + 2 + 2, o + 3 + 2, 1, 1, 1, 1]), .inl (0, 96), .inl (0, 96), .inl (0, 96)]) w
  refine zM_newa (t := 0) (n := 96) (k := 4) (bc2 := 3) (bs2 := 224) (lst2 := [.inr (2, [o + 1 + 2, o + 2 + 2, o + 3 + 2, 1, 1, 1, 1]), .inl (0, 96), .inl (0, 96), .inl (0, 96), .inl (0, 96)]) dX3_init_31 (Or.inl ⟨rfl, rfl⟩) zin_int rfl (by decide) ho rfl rfl (by omega) (fun x => hz _ _ (by omega) (by omega)) ⟨rfl, rfl⟩ ?_
  show zA l mX3_init true 2 3 224 (qX3 S0 o w) zNo 33 [zR o] [zR (o + 4), zR o] (S0 ++ [.inr (2, [o + 1 + 2, o + 2 + 2, o + 3 + 2, 1, 1, 1, 1]), .inl (0, 96), .inl (0, 96), .inl (0, 96), .inl (0, 96)]) w
  refine zM_putFR (lst2 := [.inr (2, [o + 1 + 2, o + 2 + 2, o + 3 + 2, o + 4 + 2, 1, 1, 1]), .inl (0, 96), .inl (0, 96), .inl (0, 96), .inl (0, 96)]) dX3_init_33 fX3_21 rfl zclX3.1 ho rfl (Nat.le_of_ble_eq_true rfl) ⟨fun _ => rfl, fun _ => rfl⟩ rfl ?_
  show zA l mX3_init true 2 3 224 (qX3 S0 o w) zNo 36 [zR o] [] (S0 ++ [.inr (2, [o + 1 + 2, o + 2 + 2, o + 3 + 2, o + 4 + 2, 1, 1, 1]), .inl (0, 96), .inl (0, 96), .inl (0, 96), .inl (0, 96)]) w
  refine zA_aload_n dX3_init_36 rfl ?_
  show zA l mX3_init true 2 3 224 (qX3 S0 o w) zNo 37 [zR o] [zR o] (S0 ++ [.inr (2, [o + 1 + 2, o + 2 + 2, o + 3 + 2, o + 4 + 2, 1, 1, 1]), .inl (0, 96), .inl (0, 96), .inl (0, 96), .inl (0, 96)]) w
  refine zA_bipush dX3_init_37 rfl ?_
  show zA l mX3_init true 2 3 224 (qX3 S0 o w) zNo 39 [zR o] [zI 12, zR o] (S0 ++ [.inr (2, [o + 1 + 2, o + 2 + 2, o + 3 + 2, o + 4 + 2, 1, 1, 1]), .inl (0, 96), .inl (0, 96), .inl (0, 96), .inl (0, 96)]) w
  refine zM_newa (t := 0) (n := 12) (k := 5) (bc2 := 2) (bs2 := 212) (lst2 := [.inr (2, [o + 1 + 2, o + 2 + 2, o + 3 + 2, o + 4 + 2, 1, 1, 1]), .inl (0, 96), .inl (0, 96), .inl (0, 96), .inl (0, 96), .inl (0, 12)]) dX3_init_39 (Or.inl ⟨rfl, rfl⟩) zin_int rfl (by decide) ho rfl rfl (by omega) (fun x => hz _ _ (by omega) (by omega)) ⟨rfl, rfl⟩ ?_
  show zA l mX3_init true 2 2 212 (qX3 S0 o w) zNo 41 [zR o] [zR (o + 5), zR o] (S0 ++ [.inr (2, [o + 1 + 2, o + 2 + 2, o + 3 + 2, o + 4 + 2, 1, 1, 1]), .inl (0, 96), .inl (0, 96), .inl (0, 96), .inl (0, 96), .inl (0, 12)]) w
  refine zM_putFR (lst2 := [.inr (2, [o + 1 + 2, o + 2 + 2, o + 3 + 2, o + 4 + 2, o + 5 + 2, 1, 1]), .inl (0, 96), .inl (0, 96), .inl (0, 96), .inl (0, 96), .inl (0, 12)]) dX3_init_41 fX3_24 rfl zclX3.1 ho rfl (Nat.le_of_ble_eq_true rfl) ⟨fun _ => rfl, fun _ => rfl⟩ rfl ?_
  show zA l mX3_init true 2 2 212 (qX3 S0 o w) zNo 44 [zR o] [] (S0 ++ [.inr (2, [o + 1 + 2, o + 2 + 2, o + 3 + 2, o + 4 + 2, o + 5 + 2, 1, 1]), .inl (0, 96), .inl (0, 96), .inl (0, 96), .inl (0, 96), .inl (0, 12)]) w
  refine zA_aload_n dX3_init_44 rfl ?_
  show zA l mX3_init true 2 2 212 (qX3 S0 o w) zNo 45 [zR o] [zR o] (S0 ++ [.inr (2, [o + 1 + 2, o + 2 + 2, o + 3 + 2, o + 4 + 2, o + 5 + 2, 1, 1]), .inl (0, 96), .inl (0, 96), .inl (0, 96), .inl (0, 96), .inl (0, 12)]) w
  refine zA_bipush dX3_init_45 rfl ?_
  show zA l mX3_init true 2 2 212 (qX3 S0 o w) zNo 47 [zR o] [zI 12, zR o] (S0 ++ [.inr (2, [o + 1 + 2, o + 2 + 2, o + 3 + 2, o + 4 + 2, o + 5 + 2, 1, 1]), .inl (0, 96), .inl (0, 96), .inl (0, 96), .inl (0, 96), .inl (0, 12)]) w
  refine zM_newa (t := 0) (n := 12) (k := 6) (bc2 := 1) (bs2 := 200) (lst2 := [.inr (2, [o + 1 + 2, o + 2 + 2, o + 3 + 2, o + 4 + 2, o + 5 + 2, 1, 1]), .inl (0, 96), .inl (0, 96), .inl (0, 96), .inl (0, 96), .inl (0, 12), .inl (0, 12)]) dX3_init_47 (Or.inl ⟨rfl, rfl⟩) zin_int rfl (by decide) ho rfl rfl (by omega) (fun x => hz _ _ (by omega) (by omega)) ⟨rfl, rfl⟩ ?_
  show zA l mX3_init true 2 1 200 (qX3 S0 o w) zNo 49 [zR o] [zR (o + 6), zR o] (S0 ++ [.inr (2, [o + 1 + 2, o + 2 + 2, o + 3 + 2, o + 4 + 2, o + 5 + 2, 1, 1]), .inl (0, 96), .inl (0, 96), .inl (0, 96), .inl (0, 96), .inl (0, 12), .inl (0, 12)]) w
  refine zM_putFR (lst2 := [.inr (2, [o + 1 + 2, o + 2 + 2, o + 3 + 2, o + 4 + 2, o + 5 + 2, o + 6 + 2, 1]), .inl (0, 96), .inl (0, 96), .inl (0, 96), .inl (0, 96), .inl (0, 12), .inl (0, 12)]) dX3_init_49 fX3_27 rfl zclX3.1 ho rfl (Nat.le_of_ble_eq_true rfl) ⟨fun _ => rfl, fun _ => rfl⟩ rfl ?_
  show zA l mX3_init true 2 1 200 (qX3 S0 o w) zNo 52 [zR o] [] (S0 ++ [.inr (2, [o + 1 + 2, o + 2 + 2, o + 3 + 2, o + 4 + 2, o + 5 + 2, o + 6 + 2, 1]), .inl (0, 96), .inl (0, 96), .inl (0, 96), .inl (0, 96), .inl (0, 12), .inl (0, 12)]) w
  refine zA_aload_n dX3_init_52 rfl ?_
  show zA l mX3_init true 2 1 200 (qX3 S0 o w) zNo 53 [zR o] [zR o] (S0 ++ [.inr (2, [o + 1 + 2, o + 2 + 2, o + 3 + 2, o + 4 + 2, o + 5 + 2, o + 6 + 2, 1]), .inl (0, 96), .inl (0, 96), .inl (0, 96), .inl (0, 96), .inl (0, 12), .inl (0, 12)]) w
  refine zA_sipush dX3_init_53 rfl ?_
  show zA l mX3_init true 2 1 200 (qX3 S0 o w) zNo 56 [zR o] [zI 200, zR o] (S0 ++ [.inr (2, [o + 1 + 2, o + 2 + 2, o + 3 + 2, o + 4 + 2, o + 5 + 2, o + 6 + 2, 1]), .inl (0, 96), .inl (0, 96), .inl (0, 96), .inl (0, 96), .inl (0, 12), .inl (0, 12)]) w
  refine zM_newa (t := 0) (n := 200) (k := 7) (bc2 := 0) (bs2 := 0) (lst2 := [.inr (2, [o + 1 + 2, o + 2 + 2, o + 3 + 2, o + 4 + 2, o + 5 + 2, o + 6 + 2, 1]), .inl (0, 96), .inl (0, 96), .inl (0, 96), .inl (0, 96), .inl (0, 12), .inl (0, 12), .inl (0, 200)]) dX3_init_56 (Or.inl ⟨rfl, rfl⟩) zin_int rfl (by decide) ho rfl rfl (by omega) (fun x => hz _ _ (by omega) (by omega)) ⟨rfl, rfl⟩ ?_
  show zA l mX3_init true 2 0 0 (qX3 S0 o w) zNo 58 [zR o] [zR (o + 7), zR o] (S0 ++ [.inr (2, [o + 1 + 2, o + 2 + 2, o + 3 + 2, o + 4 + 2, o + 5 + 2, o + 6 + 2, 1]), .inl (0, 96), .inl (0, 96), .inl (0, 96), .inl (0, 96), .inl (0, 12), .inl (0, 12), .inl (0, 200)]) w
  refine zM_putFR (lst2 := [.inr (2, [o + 1 + 2, o + 2 + 2, o + 3 + 2, o + 4 + 2, o + 5 + 2, o + 6 + 2, o + 7 + 2]), .inl (0, 96), .inl (0, 96), .inl (0, 96), .inl (0, 96), .inl (0, 12), .inl (0, 12), .inl (0, 200)]) dX3_init_58 fX3_30 rfl zclX3.1 ho rfl (Nat.le_of_ble_eq_true rfl) ⟨fun _ => rfl, fun _ => rfl⟩ rfl ?_
  show zA l mX3_init true 2 0 0 (qX3 S0 o w) zNo 61 [zR o] [] (S0 ++ [.inr (2, [o + 1 + 2, o + 2 + 2, o + 3 + 2, o + 4 + 2, o + 5 + 2, o + 6 + 2, o + 7 + 2]), .inl (0, 96), .inl (0, 96), .inl (0, 96), .inl (0, 96), .inl (0, 12), .inl (0, 12), .inl (0, 200)]) w
  exact zA_vret dX3_init_61 rfl ⟨rfl, rfl, rfl⟩
def qX4_cl (S0 : zS) (o : Nat) (w : zW) : Option Value → zS → zW → Prop := fun v' S' w' => v' = none ∧ S' = S0 ++ [.inr (3, [o + 1 + 2, o + 2 + 2, o + 3 + 2, 0, o + 4 + 2, 0, o + 5 + 2, o + 6 + 2]), .inl (0, 12), .inl (0, 12), .inl (0, 9), .inl (0, 9), .inl (0, 4608), .inl (0, 512)] ∧ (∀ (c : Nat) (x : Int), c ≠ o + 1 → c ≠ o + 2 → (c ≠ o ∨ x ≠ 3) → w' c x = w c x) ∧ (∀ i : Int, 0 ≤ i → i < 12 → w' (o + 1) i = 0) ∧ (∀ i : Int, 0 ≤ i → i < 12 → w' (o + 2) i = 1) ∧ w' o 3 = 0
set_option maxRecDepth 100000 in
set_option maxHeartbeats 4000000 in
theorem n_X4_cl {l : Launch} {S0 : zS} {w : zW} {o : Nat} (ho : S0.length = o) : zSp l mX4_clear true 2 0 0 [zR o] (S0 ++ [.inr (3, [o + 1 + 2, o + 2 + 2, o + 3 + 2, 0, o + 4 + 2, 0, o + 5 + 2, o + 6 + 2]), .inl (0, 12), .inl (0, 12), .inl (0, 9), .inl (0, 9), .inl (0, 4608), .inl (0, 512)]) w (qX4_cl S0 o w) zNo := by
  refine zA_intro ⟨plainFor_of_name (by decide +kernel), Or.inl (by decide +kernel)⟩ rfl (Nat.le_of_ble_eq_true rfl) ?_
  show zA l mX4_clear true 2 0 0 (qX4_cl S0 o w) zNo 0 [zR o] [] (S0 ++ [.inr (3, [o + 1 + 2, o + 2 + 2, o + 3 + 2, 0, o + 4 + 2, 0, o + 5 + 2, o + 6 + 2]), .inl (0, 12), .inl (0, 12), .inl (0, 9), .inl (0, 9), .inl (0, 4608), .inl (0, 512)]) w
  refine zA_aload_n dX4_clear_0 rfl ?_
  show zA l mX4_clear true 2 0 0 (qX4_cl S0 o w) zNo 1 [zR o] [zR o] (S0 ++ [.inr (3, [o + 1 + 2, o + 2 + 2, o + 3 + 2, 0, o + 4 + 2, 0, o + 5 + 2, o + 6 + 2]), .inl (0, 12), .inl (0, 12), .inl (0, 9), .inl (0, 9), .inl (0, 4608), .inl (0, 512)]) w
  refine zA_getR (n := o + 1) dX4_clear_1 fX4_11 (zl0 (j := 0) ho rfl) rfl ?_
  show zA l mX4_clear true 2 0 0 (qX4_cl S0 o w) zNo 4 [zR o] [zR (o + 1)] (S0 ++ [.inr (3, [o + 1 + 2, o + 2 + 2, o + 3 + 2, 0, o + 4 + 2, 0, o + 5 + 2, o + 6 + 2]), .inl (0, 12), .inl (0, 12), .inl (0, 9), .inl (0, 9), .inl (0, 4608), .inl (0, 512)]) w
  refine zA_iconst dX4_clear_4 ?_
  show zA l mX4_clear true 2 0 0 (qX4_cl S0 o w) zNo 5 [zR o] [zI 0, zR (o + 1)] (S0 ++ [.inr (3, [o + 1 + 2, o + 2 + 2, o + 3 + 2, 0, o + 4 + 2, 0, o + 5 + 2, o + 6 + 2]), .inl (0, 12), .inl (0, 12), .inl (0, 9), .inl (0, 9), .inl (0, 4608), .inl (0, 512)]) w
  refine zA_cS (st := []) dX4_clear_5 sJ7_fill_53178 kX4_40 (s_fill (w := w) (q := o + 1) (z := 12) (v := 0) (zl0 (j := 1) ho rfl) (by decide) ⟨by decide, by decide⟩) (by decide) rfl rfl (Nat.le_of_ble_eq_true rfl) (fun v1 S6 w1 h1 => ?_)
  obtain ⟨rfl, rfl, hf1, hg1⟩ := h1
  show zA l mX4_clear true 2 0 0 (qX4_cl S0 o w) zNo 8 [zR o] [] (S0 ++ [.inr (3, [o + 1 + 2, o + 2 + 2, o + 3 + 2, 0, o + 4 + 2, 0, o + 5 + 2, o + 6 + 2]), .inl (0, 12), .inl (0, 12), .inl (0, 9), .inl (0, 9), .inl (0, 4608), .inl (0, 512)]) w1
  refine zA_aload_n dX4_clear_8 rfl ?_
  show zA l mX4_clear true 2 0 0 (qX4_cl S0 o w) zNo 9 [zR o] [zR o] (S0 ++ [.inr (3, [o + 1 + 2, o + 2 + 2, o + 3 + 2, 0, o + 4 + 2, 0, o + 5 + 2, o + 6 + 2]), .inl (0, 12), .inl (0, 12), .inl (0, 9), .inl (0, 9), .inl (0, 4608), .inl (0, 512)]) w1
  refine zA_getR (n := o + 2) dX4_clear_9 fX4_15 (zl0 (j := 0) ho rfl) rfl ?_
  show zA l mX4_clear true 2 0 0 (qX4_cl S0 o w) zNo 12 [zR o] [zR (o + 2)] (S0 ++ [.inr (3, [o + 1 + 2, o + 2 + 2, o + 3 + 2, 0, o + 4 + 2, 0, o + 5 + 2, o + 6 + 2]), .inl (0, 12), .inl (0, 12), .inl (0, 9), .inl (0, 9), .inl (0, 4608), .inl (0, 512)]) w1
  refine zA_iconst dX4_clear_12 ?_
  show zA l mX4_clear true 2 0 0 (qX4_cl S0 o w) zNo 13 [zR o] [zI 1, zR (o + 2)] (S0 ++ [.inr (3, [o + 1 + 2, o + 2 + 2, o + 3 + 2, 0, o + 4 + 2, 0, o + 5 + 2, o + 6 + 2]), .inl (0, 12), .inl (0, 12), .inl (0, 9), .inl (0, 9), .inl (0, 4608), .inl (0, 512)]) w1
  refine zA_cS (st := []) dX4_clear_13 sJ7_fill_53178 kX4_40 (s_fill (w := w1) (q := o + 2) (z := 12) (v := 1) (zl0 (j := 2) ho rfl) (by decide) ⟨by decide, by decide⟩) (by decide) rfl rfl (Nat.le_of_ble_eq_true rfl) (fun v2 S7 w2 h2 => ?_)
  obtain ⟨rfl, rfl, hf2, hg2⟩ := h2
  show zA l mX4_clear true 2 0 0 (qX4_cl S0 o w) zNo 16 [zR o] [] (S0 ++ [.inr (3, [o + 1 + 2, o + 2 + 2, o + 3 + 2, 0, o + 4 + 2, 0, o + 5 + 2, o + 6 + 2]), .inl (0, 12), .inl (0, 12), .inl (0, 9), .inl (0, 9), .inl (0, 4608), .inl (0, 512)]) w2
  refine zA_aload_n dX4_clear_16 rfl ?_
  show zA l mX4_clear true 2 0 0 (qX4_cl S0 o w) zNo 17 [zR o] [zR o] (S0 ++ [.inr (3, [o + 1 + 2, o + 2 + 2, o + 3 + 2, 0, o + 4 + 2, 0, o + 5 + 2, o + 6 + 2]), .inl (0, 12), .inl (0, 12), .inl (0, 9), .inl (0, 9), .inl (0, 4608), .inl (0, 512)]) w2
  refine zA_iconst dX4_clear_17 ?_
  show zA l mX4_clear true 2 0 0 (qX4_cl S0 o w) zNo 18 [zR o] [zI 0, zR o] (S0 ++ [.inr (3, [o + 1 + 2, o + 2 + 2, o + 3 + 2, 0, o + 4 + 2, 0, o + 5 + 2, o + 6 + 2]), .inl (0, 12), .inl (0, 12), .inl (0, 9), .inl (0, 9), .inl (0, 4608), .inl (0, 512)]) w2
  refine zA_putI dX4_clear_18 fX4_21 (zl0 (j := 0) ho rfl) rfl ⟨by decide, by decide⟩ ⟨rfl, rfl⟩ ?_
  refine zA_namew (fun w3 hp3 => ?_)
  replace hp3 : w3 = up w2 o 3 0 := hp3
  show zA l mX4_clear true 2 0 0 (qX4_cl S0 o w) zNo 21 [zR o] [] (S0 ++ [.inr (3, [o + 1 + 2, o + 2 + 2, o + 3 + 2, 0, o + 4 + 2, 0, o + 5 + 2, o + 6 + 2]), .inl (0, 12), .inl (0, 12), .inl (0, 9), .inl (0, 9), .inl (0, 4608), .inl (0, 512)]) w3
  exact zA_vret dX4_clear_21 rfl ⟨rfl, rfl, fun c x a0 a1 b => by rw [hp3, up_n (by omega), hf2 c x a1, hf1 c x a0], fun i a b => by rw [hp3, up_n (by omega), hf2 _ _ (by omega)]; exact hg1 i a b, fun i a b => by rw [hp3, up_n (by omega)]; exact hg2 i a b, by rw [hp3, up_same]⟩
def qX4 (S0 : zS) (o : Nat) (w : zW) : Option Value → zS → zW → Prop := fun v' S' w' => v' = none ∧ S' = S0 ++ [.inr (3, [o + 1 + 2, o + 2 + 2, o + 3 + 2, 0, o + 4 + 2, 0, o + 5 + 2, o + 6 + 2]), .inl (0, 12), .inl (0, 12), .inl (0, 9), .inl (0, 9), .inl (0, 4608), .inl (0, 512)] ∧ (∀ (c : Nat) (x : Int), c ≠ o + 1 → c ≠ o + 2 → w' c x = w c x) ∧ (∀ i : Int, 0 ≤ i → i < 12 → w' (o + 1) i = 0) ∧ (∀ i : Int, 0 ≤ i → i < 12 → w' (o + 2) i = 1)
theorem jX4 : zMI mX4_init 0 := ⟨iX4_init, rfl, rfl, rfl, by decide, by decide +kernel, by decide +kernel, by decide +kernel⟩
set_option maxRecDepth 100000 in
set_option maxHeartbeats 4000000 in
theorem n_X4 {l : Launch} {S0 : zS} {w : zW} {o : Nat} (ho : S0.length = o) (hl : o < 900) (hz : ∀ (c : Nat) (x : Int), o ≤ c → c < o + 7 → w c x = 0) : zSp l mX4_init true 3 6 5162 [zR o] (S0 ++ [.inr (3, [1, 1, 1, 0, 1, 0, 1, 1])]) w (qX4 S0 o w) zNo := by
  refine zA_intro ⟨plainFor_of_name (by decide +kernel), Or.inl (by decide +kernel)⟩ rfl (Nat.le_of_ble_eq_true rfl) ?_
  show zA l mX4_init true 3 6 5162 (qX4 S0 o w) zNo 0 [zR o] [] (S0 ++ [.inr (3, [1, 1, 1, 0, 1, 0, 1, 1])]) w
  refine zA_aload_n dX4_init_0 rfl ?_
  show zA l mX4_init true 3 6 5162 (qX4 S0 o w) zNo 1 [zR o] [zR o] (S0 ++ [.inr (3, [1, 1, 1, 0, 1, 0, 1, 1])]) w
  refine zN_objInit dX4_init_1 koX4_5 zin_oi zin_oc (by simp) ?_
  show zA l mX4_init true 3 6 5162 (qX4 S0 o w) zNo 4 [zR o] [] (S0 ++ [.inr (3, [1, 1, 1, 0, 1, 0, 1, 1])]) w
  refine zA_aload_n dX4_init_4 rfl ?_
  show zA l mX4_init true 3 6 5162 (qX4 S0 o w) zNo 5 [zR o] [zR o] (S0 ++ [.inr (3, [1, 1, 1, 0, 1, 0, 1, 1])]) w
  refine zA_bipush dX4_init_5 rfl ?_
  show zA l mX4_init true 3 6 5162 (qX4 S0 o w) zNo 7 [zR o] [zI 12, zR o] (S0 ++ [.inr (3, [1, 1, 1, 0, 1, 0, 1, 1])]) w
  refine zM_newa (t := 0) (n := 12) (k := 1) (bc2 := 5) (bs2 := 5150) (lst2 := [.inr (3, [1, 1, 1, 0, 1, 0, 1, 1]), .inl (0, 12)]) dX4_init_7 (Or.inl ⟨rfl, rfl⟩) zin_int rfl (by decide) ho rfl rfl (by omega) (fun x => hz _ _ (by omega) (by omega)) ⟨rfl, rfl⟩ ?_
  show zA l mX4_init true 3 5 5150 (qX4 S0 o w) zNo 9 [zR o] [zR (o + 1), zR o] (S0 ++ [.inr (3, [1, 1, 1, 0, 1, 0, 1, 1]), .inl (0, 12)]) w
  refine zM_putFR (lst2 := [.inr (3, [o + 1 + 2, 1, 1, 0, 1, 0, 1, 1]), .inl (0, 12)]) dX4_init_9 fX4_11 rfl zclX4.1 ho rfl (Nat.le_of_ble_eq_true rfl) ⟨fun _ => rfl, fun _ => rfl⟩ rfl ?_
  show zA l mX4_init true 3 5 5150 (qX4 S0 o w) zNo 12 [zR o] [] (S0 ++ [.inr (3, [o + 1 + 2, 1, 1, 0, 1, 0, 1, 1]), .inl (0, 12)]) w
  refine zA_aload_n dX4_init_12 rfl ?_
  show zA l mX4_init true 3 5 5150 (qX4 S0 o w) zNo 13 [zR o] [zR o] (S0 ++ [.inr (3, [o + 1 + 2, 1, 1, 0, 1, 0, 1, 1]), .inl (0, 12)]) w
  refine zA_bipush dX4_init_13 rfl ?_
  show zA l mX4_init true 3 5 5150 (qX4 S0 o w) zNo 15 [zR o] [zI 12, zR o] (S0 ++ [.inr (3, [o + 1 + 2, 1, 1, 0, 1, 0, 1, 1]), .inl (0, 12)]) w
  refine zM_newa (t := 0) (n := 12) (k := 2) (bc2 := 4) (bs2 := 5138) (lst2 := [.inr (3, [o + 1 + 2, 1, 1, 0, 1, 0, 1, 1]), .inl (0, 12), .inl (0, 12)]) dX4_init_15 (Or.inl ⟨rfl, rfl⟩) zin_int rfl (by decide) ho rfl rfl (by omega) (fun x => hz _ _ (by omega) (by omega)) ⟨rfl, rfl⟩ ?_
  show zA l mX4_init true 3 4 5138 (qX4 S0 o w) zNo 17 [zR o] [zR (o + 2), zR o] (S0 ++ [.inr (3, [o + 1 + 2, 1, 1, 0, 1, 0, 1, 1]), .inl (0, 12), .inl (0, 12)]) w
  refine zM_putFR (lst2 := [.inr (3, [o + 1 + 2, o + 2 + 2, 1, 0, 1, 0, 1, 1]), .inl (0, 12), .inl (0, 12)]) dX4_init_17 fX4_15 rfl zclX4.1 ho rfl (Nat.le_of_ble_eq_true rfl) ⟨fun _ => rfl, fun _ => rfl⟩ rfl ?_
  show zA l mX4_init true 3 4 5138 (qX4 S0 o w) zNo 20 [zR o] [] (S0 ++ [.inr (3, [o + 1 + 2, o + 2 + 2, 1, 0, 1, 0, 1, 1]), .inl (0, 12), .inl (0, 12)]) w
  refine zA_aload_n dX4_init_20 rfl ?_
  show zA l mX4_init true 3 4 5138 (qX4 S0 o w) zNo 21 [zR o] [zR o] (S0 ++ [.inr (3, [o + 1 + 2, o + 2 + 2, 1, 0, 1, 0, 1, 1]), .inl (0, 12), .inl (0, 12)]) w
  refine zA_bipush dX4_init_21 rfl ?_
  show zA l mX4_init true 3 4 5138 (qX4 S0 o w) zNo 23 [zR o] [zI 9, zR o] (S0 ++ [.inr (3, [o + 1 + 2, o + 2 + 2, 1, 0, 1, 0, 1, 1]), .inl (0, 12), .inl (0, 12)]) w
  refine zM_newa (t := 0) (n := 9) (k := 3) (bc2 := 3) (bs2 := 5129) (lst2 := [.inr (3, [o + 1 + 2, o + 2 + 2, 1, 0, 1, 0, 1, 1]), .inl (0, 12), .inl (0, 12), .inl (0, 9)]) dX4_init_23 (Or.inl ⟨rfl, rfl⟩) zin_int rfl (by decide) ho rfl rfl (by omega) (fun x => hz _ _ (by omega) (by omega)) ⟨rfl, rfl⟩ ?_
  show zA l mX4_init true 3 3 5129 (qX4 S0 o w) zNo 25 [zR o] [zR (o + 3), zR o] (S0 ++ [.inr (3, [o + 1 + 2, o + 2 + 2, 1, 0, 1, 0, 1, 1]), .inl (0, 12), .inl (0, 12), .inl (0, 9)]) w
  refine zM_putFR (lst2 := [.inr (3, [o + 1 + 2, o + 2 + 2, o + 3 + 2, 0, 1, 0, 1, 1]), .inl (0, 12), .inl (0, 12), .inl (0, 9)]) dX4_init_25 fX4_18 rfl zclX4.1 ho rfl (Nat.le_of_ble_eq_true rfl) ⟨fun _ => rfl, fun _ => rfl⟩ rfl ?_
  show zA l mX4_init true 3 3 5129 (qX4 S0 o w) zNo 28 [zR o] [] (S0 ++ [.inr (3, [o + 1 + 2, o + 2 + 2, o + 3 + 2, 0, 1, 0, 1, 1]), .inl (0, 12), .inl (0, 12), .inl (0, 9)]) w
  refine zA_aload_n dX4_init_28 rfl ?_
  show zA l mX4_init true 3 3 5129 (qX4 S0 o w) zNo 29 [zR o] [zR o] (S0 ++ [.inr (3, [o + 1 + 2, o + 2 + 2, o + 3 + 2, 0, 1, 0, 1, 1]), .inl (0, 12), .inl (0, 12), .inl (0, 9)]) w
  refine zA_iconst dX4_init_29 ?_
  show zA l mX4_init true 3 3 5129 (qX4 S0 o w) zNo 30 [zR o] [zI 0, zR o] (S0 ++ [.inr (3, [o + 1 + 2, o + 2 + 2, o + 3 + 2, 0, 1, 0, 1, 1]), .inl (0, 12), .inl (0, 12), .inl (0, 9)]) w
  refine zM_put0 dX4_init_30 fX4_21 ho rfl rfl ⟨rfl, rfl⟩ (hz _ _ (by omega) (by omega)) ?_
  show zA l mX4_init true 3 3 5129 (qX4 S0 o w) zNo 33 [zR o] [] (S0 ++ [.inr (3, [o + 1 + 2, o + 2 + 2, o + 3 + 2, 0, 1, 0, 1, 1]), .inl (0, 12), .inl (0, 12), .inl (0, 9)]) w
  refine zA_aload_n dX4_init_33 rfl ?_
  show zA l mX4_init true 3 3 5129 (qX4 S0 o w) zNo 34 [zR o] [zR o] (S0 ++ [.inr (3, [o + 1 + 2, o + 2 + 2, o + 3 + 2, 0, 1, 0, 1, 1]), .inl (0, 12), .inl (0, 12), .inl (0, 9)]) w
  refine zA_bipush dX4_init_34 rfl ?_
  show zA l mX4_init true 3 3 5129 (qX4 S0 o w) zNo 36 [zR o] [zI 9, zR o] (S0 ++ [.inr (3, [o + 1 + 2, o + 2 + 2, o + 3 + 2, 0, 1, 0, 1, 1]), .inl (0, 12), .inl (0, 12), .inl (0, 9)]) w
  refine zM_newa (t := 0) (n := 9) (k := 4) (bc2 := 2) (bs2 := 5120) (lst2 := [.inr (3, [o + 1 + 2, o + 2 + 2, o + 3 + 2, 0, 1, 0, 1, 1]), .inl (0, 12), .inl (0, 12), .inl (0, 9), .inl (0, 9)]) dX4_init_36 (Or.inl ⟨rfl, rfl⟩) zin_int rfl (by decide) ho rfl rfl (by omega) (fun x => hz _ _ (by omega) (by omega)) ⟨rfl, rfl⟩ ?_
  show zA l mX4_init true 3 2 5120 (qX4 S0 o w) zNo 38 [zR o] [zR (o + 4), zR o] (S0 ++ [.inr (3, [o + 1 + 2, o + 2 + 2, o + 3 + 2, 0, 1, 0, 1, 1]), .inl (0, 12), .inl (0, 12), .inl (0, 9), .inl (0, 9)]) w
  refine zM_putFR (lst2 := [.inr (3, [o + 1 + 2, o + 2 + 2, o + 3 + 2, 0, o + 4 + 2, 0, 1, 1]), .inl (0, 12), .inl (0, 12), .inl (0, 9), .inl (0, 9)]) dX4_init_38 fX4_25 rfl zclX4.1 ho rfl (Nat.le_of_ble_eq_true rfl) ⟨fun _ => rfl, fun _ => rfl⟩ rfl ?_
  show zA l mX4_init true 3 2 5120 (qX4 S0 o w) zNo 41 [zR o] [] (S0 ++ [.inr (3, [o + 1 + 2, o + 2 + 2, o + 3 + 2, 0, o + 4 + 2, 0, 1, 1]), .inl (0, 12), .inl (0, 12), .inl (0, 9), .inl (0, 9)]) w
  refine zA_aload_n dX4_init_41 rfl ?_
  show zA l mX4_init true 3 2 5120 (qX4 S0 o w) zNo 42 [zR o] [zR o] (S0 ++ [.inr (3, [o + 1 + 2, o + 2 + 2, o + 3 + 2, 0, o + 4 + 2, 0, 1, 1]), .inl (0, 12), .inl (0, 12), .inl (0, 9), .inl (0, 9)]) w
  refine zA_iconst dX4_init_42 ?_
  show zA l mX4_init true 3 2 5120 (qX4 S0 o w) zNo 43 [zR o] [zI 0, zR o] (S0 ++ [.inr (3, [o + 1 + 2, o + 2 + 2, o + 3 + 2, 0, o + 4 + 2, 0, 1, 1]), .inl (0, 12), .inl (0, 12), .inl (0, 9), .inl (0, 9)]) w
  refine zM_put0 dX4_init_43 fX4_28 ho rfl rfl ⟨rfl, rfl⟩ (hz _ _ (by omega) (by omega)) ?_
  show zA l mX4_init true 3 2 5120 (qX4 S0 o w) zNo 46 [zR o] [] (S0 ++ [.inr (3, [o + 1 + 2, o + 2 + 2, o + 3 + 2, 0, o + 4 + 2, 0, 1, 1]), .inl (0, 12), .inl (0, 12), .inl (0, 9), .inl (0, 9)]) w
  refine zA_aload_n dX4_init_46 rfl ?_
  show zA l mX4_init true 3 2 5120 (qX4 S0 o w) zNo 47 [zR o] [zR o] (S0 ++ [.inr (3, [o + 1 + 2, o + 2 + 2, o + 3 + 2, 0, o + 4 + 2, 0, 1, 1]), .inl (0, 12), .inl (0, 12), .inl (0, 9), .inl (0, 9)]) w
  refine zA_sipush dX4_init_47 rfl ?_
  show zA l mX4_init true 3 2 5120 (qX4 S0 o w) zNo 50 [zR o] [zI 4608, zR o] (S0 ++ [.inr (3, [o + 1 + 2, o + 2 + 2, o + 3 + 2, 0, o + 4 + 2, 0, 1, 1]), .inl (0, 12), .inl (0, 12), .inl (0, 9), .inl (0, 9)]) w
  refine zM_newa (t := 0) (n := 4608) (k := 5) (bc2 := 1) (bs2 := 512) (lst2 := [.inr (3, [o + 1 + 2, o + 2 + 2, o + 3 + 2, 0, o + 4 + 2, 0, 1, 1]), .inl (0, 12), .inl (0, 12), .inl (0, 9), .inl (0, 9), .inl (0, 4608)]) dX4_init_50 (Or.inl ⟨rfl, rfl⟩) zin_int rfl (by decide) ho rfl rfl (by omega) (fun x => hz _ _ (by omega) (by omega)) ⟨rfl, rfl⟩ ?_
  show zA l mX4_init true 3 1 512 (qX4 S0 o w) zNo 52 [zR o] [zR (o + 5), zR o] (S0 ++ [.inr (3, [o + 1 + 2, o + 2 + 2, o + 3 + 2, 0, o + 4 + 2, 0, 1, 1]), .inl (0, 12), .inl (0, 12), .inl (0, 9), .inl (0, 9), .inl (0, 4608)]) w
  refine zM_putFR (lst2 := [.inr (3, [o + 1 + 2, o + 2 + 2, o + 3 + 2, 0, o + 4 + 2, 0, o + 5 + 2, 1]), .inl (0, 12), .inl (0, 12), .inl (0, 9), .inl (0, 9), .inl (0, 4608)]) dX4_init_52 fX4_31 rfl zclX4.1 ho rfl (Nat.le_of_ble_eq_true rfl) ⟨fun _ => rfl, fun _ => rfl⟩ rfl ?_
  show zA l mX4_init true 3 1 512 (qX4 S0 o w) zNo 55 [zR o] [] (S0 ++ [.inr (3, [o + 1 + 2, o + 2 + 2, o + 3 + 2, 0, o + 4 + 2, 0, o + 5 + 2, 1]), .inl (0, 12), .inl (0, 12), .inl (0, 9), .inl (0, 9), .inl (0, 4608)]) w
  refine zA_aload_n dX4_init_55 rfl ?_
  show zA l mX4_init true 3 1 512 (qX4 S0 o w) zNo 56 [zR o] [zR o] (S0 ++ [.inr (3, [o + 1 + 2, o + 2 + 2, o + 3 + 2, 0, o + 4 + 2, 0, o + 5 + 2, 1]), .inl (0, 12), .inl (0, 12), .inl (0, 9), .inl (0, 9), .inl (0, 4608)]) w
  refine zA_sipush dX4_init_56 rfl ?_
  show zA l mX4_init true 3 1 512 (qX4 S0 o w) zNo 59 [zR o] [zI 512, zR o] (S0 ++ [.inr (3, [o + 1 + 2, o + 2 + 2, o + 3 + 2, 0, o + 4 + 2, 0, o + 5 + 2, 1]), .inl (0, 12), .inl (0, 12), .inl (0, 9), .inl (0, 9), .inl (0, 4608)]) w
  refine zM_newa (t := 0) (n := 512) (k := 6) (bc2 := 0) (bs2 := 0) (lst2 := [.inr (3, [o + 1 + 2, o + 2 + 2, o + 3 + 2, 0, o + 4 + 2, 0, o + 5 + 2, 1]), .inl (0, 12), .inl (0, 12), .inl (0, 9), .inl (0, 9), .inl (0, 4608), .inl (0, 512)]) dX4_init_59 (Or.inl ⟨rfl, rfl⟩) zin_int rfl (by decide) ho rfl rfl (by omega) (fun x => hz _ _ (by omega) (by omega)) ⟨rfl, rfl⟩ ?_
  show zA l mX4_init true 3 0 0 (qX4 S0 o w) zNo 61 [zR o] [zR (o + 6), zR o] (S0 ++ [.inr (3, [o + 1 + 2, o + 2 + 2, o + 3 + 2, 0, o + 4 + 2, 0, o + 5 + 2, 1]), .inl (0, 12), .inl (0, 12), .inl (0, 9), .inl (0, 9), .inl (0, 4608), .inl (0, 512)]) w
  refine zM_putFR (lst2 := [.inr (3, [o + 1 + 2, o + 2 + 2, o + 3 + 2, 0, o + 4 + 2, 0, o + 5 + 2, o + 6 + 2]), .inl (0, 12), .inl (0, 12), .inl (0, 9), .inl (0, 9), .inl (0, 4608), .inl (0, 512)]) dX4_init_61 fX4_34 rfl zclX4.1 ho rfl (Nat.le_of_ble_eq_true rfl) ⟨fun _ => rfl, fun _ => rfl⟩ rfl ?_
  show zA l mX4_init true 3 0 0 (qX4 S0 o w) zNo 64 [zR o] [] (S0 ++ [.inr (3, [o + 1 + 2, o + 2 + 2, o + 3 + 2, 0, o + 4 + 2, 0, o + 5 + 2, o + 6 + 2]), .inl (0, 12), .inl (0, 12), .inl (0, 9), .inl (0, 9), .inl (0, 4608), .inl (0, 512)]) w
  refine zA_aload_n dX4_init_64 rfl ?_
  show zA l mX4_init true 3 0 0 (qX4 S0 o w) zNo 65 [zR o] [zR o] (S0 ++ [.inr (3, [o + 1 + 2, o + 2 + 2, o + 3 + 2, 0, o + 4 + 2, 0, o + 5 + 2, o + 6 + 2]), .inl (0, 12), .inl (0, 12), .inl (0, 9), .inl (0, 9), .inl (0, 4608), .inl (0, 512)]) w
  refine zA_cV (st := []) dX4_init_65 vX4_clear kX4_37 (n_X4_cl (w := w) ho) (by decide) (zl0 (j := 0) ho rfl) rfl rfl (Nat.le_of_ble_eq_true rfl) rfl (fun v1 S6 w1 h1 => ?_)
  obtain ⟨rfl, rfl, hf, hg0, hg1, hp0⟩ := h1
  have hfo : ∀ (c : Nat) (x : Int), c ≠ o + 1 → c ≠ o + 2 → w1 c x = w c x := fun c x a0 a1 => by
    by_cases q : c = o
    · subst q
      by_cases q0 : x = 3
      · rw [q0, hp0]; exact (hz _ _ (by omega) (by omega)).symm
      exact hf _ x a0 a1 (Or.inr (by omega))
    · exact hf c x a0 a1 (Or.inl q)
  show zA l mX4_init true 3 0 0 (qX4 S0 o w) zNo 68 [zR o] [] (S0 ++ [.inr (3, [o + 1 + 2, o + 2 + 2, o + 3 + 2, 0, o + 4 + 2, 0, o + 5 + 2, o + 6 + 2]), .inl (0, 12), .inl (0, 12), .inl (0, 9), .inl (0, 9), .inl (0, 4608), .inl (0, 512)]) w1
  exact zA_vret dX4_init_68 rfl ⟨rfl, rfl, hfo, hg0, hg1⟩
def qX5 (S0 : zS) (o : Nat) (w : zW) : Option Value → zS → zW → Prop := fun v' S' w' => v' = none ∧ S' = S0 ++ [.inr (4, [o + 1 + 2, o + 2 + 2, o + 3 + 2]), .inl (0, 6), .inl (0, 72), .inl (0, 6)] ∧ w' = w
theorem jX5 : zMI mX5_init 0 := ⟨iX5_init, rfl, rfl, rfl, by decide, by decide +kernel, by decide +kernel, by decide +kernel⟩
set_option maxRecDepth 100000 in
set_option maxHeartbeats 4000000 in
theorem n_X5 {l : Launch} {S0 : zS} {w : zW} {o : Nat} (ho : S0.length = o) (hl : o < 900) (hz : ∀ (c : Nat) (x : Int), o ≤ c → c < o + 4 → w c x = 0) : zSp l mX5_init true 2 3 84 [zR o] (S0 ++ [.inr (4, [1, 1, 1])]) w (qX5 S0 o w) zNo := by
  refine zA_intro ⟨plainFor_of_name (by decide +kernel), Or.inl (by decide +kernel)⟩ rfl (Nat.le_of_ble_eq_true rfl) ?_
  show zA l mX5_init true 2 3 84 (qX5 S0 o w) zNo 0 [zR o] [] (S0 ++ [.inr (4, [1, 1, 1])]) w
  refine zA_aload_n dX5_init_0 rfl ?_
  show zA l mX5_init true 2 3 84 (qX5 S0 o w) zNo 1 [zR o] [zR o] (S0 ++ [.inr (4, [1, 1, 1])]) w
  refine zN_objInit dX5_init_1 koX5_3 zin_oi zin_oc (by simp) ?_
  show zA l mX5_init true 2 3 84 (qX5 S0 o w) zNo 4 [zR o] [] (S0 ++ [.inr (4, [1, 1, 1])]) w
  refine zA_aload_n dX5_init_4 rfl ?_
  show zA l mX5_init true 2 3 84 (qX5 S0 o w) zNo 5 [zR o] [zR o] (S0 ++ [.inr (4, [1, 1, 1])]) w
  refine zA_bipush dX5_init_5 rfl ?_
  show zA l mX5_init true 2 3 84 (qX5 S0 o w) zNo 7 [zR o] [zI 6, zR o] (S0 ++ [.inr (4, [1, 1, 1])]) w
  refine zM_newa (t := 0) (n := 6) (k := 1) (bc2 := 2) (bs2 := 78) (lst2 := [.inr (4, [1, 1, 1]), .inl (0, 6)]) dX5_init_7 (Or.inl ⟨rfl, rfl⟩) zin_int rfl (by decide) ho rfl rfl (by omega) (fun x => hz _ _ (by omega) (by omega)) ⟨rfl, rfl⟩ ?_
  show zA l mX5_init true 2 2 78 (qX5 S0 o w) zNo 9 [zR o] [zR (o + 1), zR o] (S0 ++ [.inr (4, [1, 1, 1]), .inl (0, 6)]) w
  refine zM_putFR (lst2 := [.inr (4, [o + 1 + 2, 1, 1]), .inl (0, 6)]) dX5_init_9 fX5_11 rfl zclX5.1 ho rfl (Nat.le_of_ble_eq_true rfl) ⟨fun _ => rfl, fun _ => rfl⟩ rfl ?_
  show zA l mX5_init true 2 2 78 (qX5 S0 o w) zNo 12 [zR o] [] (S0 ++ [.inr (4, [o + 1 + 2, 1, 1]), .inl (0, 6)]) w
  refine zA_aload_n dX5_init_12 rfl ?_
  show zA l mX5_init true 2 2 78 (qX5 S0 o w) zNo 13 [zR o] [zR o] (S0 ++ [.inr (4, [o + 1 + 2, 1, 1]), .inl (0, 6)]) w
  refine zA_bipush dX5_init_13 rfl ?_
  show zA l mX5_init true 2 2 78 (qX5 S0 o w) zNo 15 [zR o] [zI 72, zR o] (S0 ++ [.inr (4, [o + 1 + 2, 1, 1]), .inl (0, 6)]) w
  refine zM_newa (t := 0) (n := 72) (k := 2) (bc2 := 1) (bs2 := 6) (lst2 := [.inr (4, [o + 1 + 2, 1, 1]), .inl (0, 6), .inl (0, 72)]) dX5_init_15 (Or.inl ⟨rfl, rfl⟩) zin_int rfl (by decide) ho rfl rfl (by omega) (fun x => hz _ _ (by omega) (by omega)) ⟨rfl, rfl⟩ ?_
  show zA l mX5_init true 2 1 6 (qX5 S0 o w) zNo 17 [zR o] [zR (o + 2), zR o] (S0 ++ [.inr (4, [o + 1 + 2, 1, 1]), .inl (0, 6), .inl (0, 72)]) w
  refine zM_putFR (lst2 := [.inr (4, [o + 1 + 2, o + 2 + 2, 1]), .inl (0, 6), .inl (0, 72)]) dX5_init_17 fX5_15 rfl zclX5.1 ho rfl (Nat.le_of_ble_eq_true rfl) ⟨fun _ => rfl, fun _ => rfl⟩ rfl ?_
  show zA l mX5_init true 2 1 6 (qX5 S0 o w) zNo 20 [zR o] [] (S0 ++ [.inr (4, [o + 1 + 2, o + 2 + 2, 1]), .inl (0, 6), .inl (0, 72)]) w
  refine zA_aload_n dX5_init_20 rfl ?_
  show zA l mX5_init true 2 1 6 (qX5 S0 o w) zNo 21 [zR o] [zR o] (S0 ++ [.inr (4, [o + 1 + 2, o + 2 + 2, 1]), .inl (0, 6), .inl (0, 72)]) w
  refine zA_bipush dX5_init_21 rfl ?_
  show zA l mX5_init true 2 1 6 (qX5 S0 o w) zNo 23 [zR o] [zI 6, zR o] (S0 ++ [.inr (4, [o + 1 + 2, o + 2 + 2, 1]), .inl (0, 6), .inl (0, 72)]) w
  refine zM_newa (t := 0) (n := 6) (k := 3) (bc2 := 0) (bs2 := 0) (lst2 := [.inr (4, [o + 1 + 2, o + 2 + 2, 1]), .inl (0, 6), .inl (0, 72), .inl (0, 6)]) dX5_init_23 (Or.inl ⟨rfl, rfl⟩) zin_int rfl (by decide) ho rfl rfl (by omega) (fun x => hz _ _ (by omega) (by omega)) ⟨rfl, rfl⟩ ?_
  show zA l mX5_init true 2 0 0 (qX5 S0 o w) zNo 25 [zR o] [zR (o + 3), zR o] (S0 ++ [.inr (4, [o + 1 + 2, o + 2 + 2, 1]), .inl (0, 6), .inl (0, 72), .inl (0, 6)]) w
  refine zM_putFR (lst2 := [.inr (4, [o + 1 + 2, o + 2 + 2, o + 3 + 2]), .inl (0, 6), .inl (0, 72), .inl (0, 6)]) dX5_init_25 fX5_18 rfl zclX5.1 ho rfl (Nat.le_of_ble_eq_true rfl) ⟨fun _ => rfl, fun _ => rfl⟩ rfl ?_
  show zA l mX5_init true 2 0 0 (qX5 S0 o w) zNo 28 [zR o] [] (S0 ++ [.inr (4, [o + 1 + 2, o + 2 + 2, o + 3 + 2]), .inl (0, 6), .inl (0, 72), .inl (0, 6)]) w
  exact zA_vret dX5_init_28 rfl ⟨rfl, rfl, rfl⟩
