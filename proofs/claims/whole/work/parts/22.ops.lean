/-! the instructions, a row each -/
theorem inR_n {z : Int} (h : inR z) : (Int32.ofInt z).toInt = z := Int32.toInt_ofInt_of_le h.1 h.2
theorem zlt {a b : Int} (ha : inR a) (hb : inR b) : Int32.ofInt a < Int32.ofInt b ↔ a < b := by rw [Int32.lt_iff_toInt_lt, inR_n ha, inR_n hb]
theorem zle {a b : Int} (ha : inR a) (hb : inR b) : Int32.ofInt a ≤ Int32.ofInt b ↔ a ≤ b := by rw [Int32.le_iff_toInt_le, inR_n ha, inR_n hb]
theorem zeq {a b : Int} (ha : inR a) (hb : inR b) : Int32.ofInt a = Int32.ofInt b ↔ a = b := by rw [← Int32.toInt_inj, inR_n ha, inR_n hb]
theorem zof (x : Int32) : Int32.ofInt x.toInt = x := Int32.ofInt_toInt x
theorem zix {i : Int} {n : Nat} (h0 : 0 ≤ i) (h1 : i < (n : Int)) (hn : n < 2147483648) : vp_in (Int32.ofInt i) n ∧ (Int32.ofInt i).toNatClampNeg = i.toNat := by
  have hr : inR i := ⟨by omega, by omega⟩
  have h2 : (Int32.ofInt i).toNatClampNeg = i.toNat := by rw [← Int32.toNat_toInt, inR_n hr]
  exact ⟨vp_in_iff.mpr (by rw [inR_n hr]; exact ⟨h0, h1⟩), h2⟩
def iAnd (a b : Int) : Int := (Int32.ofInt a &&& Int32.ofInt b).toInt
def iOr (a b : Int) : Int := (Int32.ofInt a ||| Int32.ofInt b).toInt
def iXor (a b : Int) : Int := (Int32.ofInt a ^^^ Int32.ofInt b).toInt
def iShl (a b : Int) : Int := (Int32.ofInt a <<< (Int32.ofInt b &&& 31)).toInt
def iShr (a b : Int) : Int := (Int32.ofInt a >>> (Int32.ofInt b &&& 31)).toInt
def iUsh (a b : Int) : Int := ((Int32.ofInt a).toUInt32 >>> ((Int32.ofInt b).toUInt32 &&& Int32.toUInt32 31)).toInt32.toInt
theorem inR_t (x : Int32) : inR x.toInt := ⟨x.le_toInt, x.toInt_lt⟩
theorem zdiv {a b : Int} (ha : 0 ≤ a) (hb : 0 < b) (ra : a < 2147483648) (rb : b < 2147483648) : Int32.ofInt a / Int32.ofInt b = Int32.ofInt (a / b) := by
  have h1 : inR a := ⟨by omega, ra⟩
  have h2 : inR b := ⟨by omega, rb⟩
  have hq : 0 ≤ a / b := Int.ediv_nonneg ha (by omega)
  have hq2 : a / b ≤ a := Int.ediv_le_self b ha
  have h3 : inR (a / b) := ⟨by omega, by omega⟩
  rw [← Int32.toInt_inj, Int32.toInt_div, inR_n h1, inR_n h2, inR_n h3, Int.tdiv_eq_ediv_of_nonneg ha]
  exact Int.bmod_eq_of_le (by omega) (by omega)
def znol (lo : List Value) (i : Nat) : Bool := match i with
  | 0 => true
  | j + 1 => match lo[j]? with
    | some (.long _) => false
    | some (.double _) => false
    | _ => true
def zll (ad : Nat → Nat) (lo : List Value) : List (Nat × Value) := (lo.mapIdx (fun k v => (k, zcv ad v))).filter (fun q => !znl q.2)
theorem znl_cv (ad : Nat → Nat) (v : Value) : znl (zcv ad v) = znl v := by cases v <;> rfl
theorem zll_mem {ad : Nat → Nat} {lo : List Value} {k : Nat} {v : Value} (h : lo[k]? = some v) (hn : znl v = false) : (k, zcv ad v) ∈ zll ad lo := by
  refine List.mem_filter.mpr ⟨?_, by simp [znl_cv, hn]⟩
  refine List.mem_of_getElem? (i := k) ?_
  rw [List.getElem?_mapIdx, h]
  rfl
theorem zll_has {ad : Nat → Nat} {ls : Array Slot} {nL : Nat} {lo : List Value} (h : zLk ad ls nL lo) : lv_has ls nL (zll ad lo) := by
  refine ⟨h.1.1, h.1.2.1, fun q hq => ?_⟩
  obtain ⟨h1, h2⟩ := List.mem_filter.mp hq
  obtain ⟨k, hk⟩ := List.getElem?_of_mem h1
  rw [List.getElem?_mapIdx] at hk
  cases hv : lo[k]? with
  | none => rw [hv] at hk; cases hk
  | some v =>
    rw [hv] at hk
    cases hk
    simp only [znl_cv] at h2
    exact h.2 k v hv (by cases hz : znl v <;> simp_all)
theorem zLk.at {ad : Nat → Nat} {ls : Array Slot} {nL : Nat} {lo : List Value} (h : zLk ad ls nL lo) {k : Nat} {v : Value} (hv : lo[k]? = some v) (hn : znl v = false) : ls[k]? = some (.val (zcv ad v)) := h.2 k v hv hn
theorem zLk_put {ad : Nat → Nat} {ls' : Array Slot} {nL i : Nat} {lo : List Value} {v : Value} (h : lv_has ls' nL ((i, zcv ad v) :: (zll ad lo).filter (fun q => !(q.1 == i) && !(q.1 + 1 == i && q.2.category == 2)))) (hno : znol lo i = true) : zLk ad ls' nL (lo.set i v) := by
  refine ⟨lv_sub h [] rfl, fun k u hk hn => ?_⟩
  by_cases hki : k = i
  · subst hki
    have hl : k < lo.length := by
      have := (List.getElem?_eq_some_iff.mp hk).1
      simpa using this
    rw [List.getElem?_set_self hl] at hk
    cases hk
    exact h.2.2 _ List.mem_cons_self
  · rw [List.getElem?_set_ne (Ne.symm hki)] at hk
    refine h.2.2 (k, zcv ad u) (List.mem_cons_of_mem _ (List.mem_filter.mpr ⟨zll_mem hk hn, ?_⟩))
    have h1 : (k == i) = false := by simp [hki]
    simp only [h1, Bool.not_false, Bool.true_and, zcv_cat]
    by_cases h2 : k + 1 = i
    · subst h2
      simp only [znol, hk] at hno
      cases u <;> simp_all [Value.category]
    · simp [h2]
theorem zLk_put2 {ad : Nat → Nat} {ls' : Array Slot} {nL i : Nat} {lo : List Value} {v : Value} (h : lv_has ls' nL ((i, zcv ad v) :: (zll ad lo).filter (fun q => !(q.1 == i) && (!(q.1 == i + 1) && !(q.1 + 1 == i && q.2.category == 2))))) (hno : znol lo i = true) : zLk ad ls' nL ((lo.set i v).set (i + 1) .null) := by
  refine ⟨lv_sub h [] rfl, fun k u hk hn => ?_⟩
  by_cases hk1 : k = i + 1
  · subst hk1
    have hl : i + 1 < (lo.set i v).length := (List.getElem?_eq_some_iff.mp hk).1 |> fun h => by simpa using h
    rw [List.getElem?_set_self hl] at hk
    cases hk
    cases hn
  rw [List.getElem?_set_ne (Ne.symm hk1)] at hk
  by_cases hki : k = i
  · subst hki
    have hl : k < lo.length := by
      have := (List.getElem?_eq_some_iff.mp hk).1
      simpa using this
    rw [List.getElem?_set_self hl] at hk
    cases hk
    exact h.2.2 _ List.mem_cons_self
  · rw [List.getElem?_set_ne (Ne.symm hki)] at hk
    refine h.2.2 (k, zcv ad u) (List.mem_cons_of_mem _ (List.mem_filter.mpr ⟨zll_mem hk hn, ?_⟩))
    have h1 : (k == i) = false := by simp [hki]
    have h3 : (k == i + 1) = false := by simp [hk1]
    simp only [h1, h3, Bool.not_false, Bool.true_and, zcv_cat]
    by_cases h2 : k + 1 = i
    · subst h2
      simp only [znol, hk] at hno
      cases u <;> simp_all [Value.category]
    · simp [h2]
section ZW
variable {p : Program} {l : Launch} {e : Env} {R : Room} {s : State} {m : MethodId} {args : Array Value} {below : List Frame} {meth : Method} {c : Code} {H : Heap} {locs : List Loc} {cells slots pc : Nat} {Z : State → Prop} {ad : Nat → Nat} {ls : Array Slot} {st : List Value}
theorem zW1 {x : Int32} {z : Int} (h : x = Int32.ofInt z) (k : W p l e R s m args below meth c H locs cells slots Z (F0 m pc ls ((zI z :: st).map (zcv ad)))) : W p l e R s m args below meth c H locs cells slots Z (F0 m pc ls (.int x :: st.map (zcv ad))) := by subst h; exact k
theorem zW2 {x : Int64} {z : Int} (h : x = Int64.ofInt z) (k : W p l e R s m args below meth c H locs cells slots Z (F0 m pc ls ((zL z :: st).map (zcv ad)))) : W p l e R s m args below meth c H locs cells slots Z (F0 m pc ls (.long x :: st.map (zcv ad))) := by subst h; exact k
end ZW
section ZO
variable {l : Launch} {M : zM} {gr : Bool} {d bc bs : Nat} {Q : Option Value → zS → zW → Prop} {X : String → zS → zW → Prop} {pc : Nat} {lo st : List Value} {S : zS} {w : zW}
theorem zA_iload_n {k : Fin 4} {a : Int} (hd : decode M.2.1 pc = .ok (.iload_n k, 1)) (hv : lo[(k : Nat)]? = some (zI a)) (kk : zA l M gr d bc bs Q X (pc + 1) lo (zI a :: st) S w) : zA l M gr d bc bs Q X pc lo st S w := by
  intro p e R s m args below meth c Z G ad A hC H locs ls cells slots hR hS hL hc hs
  exact lv_iload_n hC.1 hC.2.1 hd rfl (hL.at hv rfl) (kk p e R s m args below meth c Z G ad A hC H locs ls cells slots hR hS hL hc hs)
theorem zA_iload {k : Nat} {a : Int} (hd : decode M.2.1 pc = .ok (.iload k, 2)) (hv : lo[k]? = some (zI a)) (kk : zA l M gr d bc bs Q X (pc + 2) lo (zI a :: st) S w) : zA l M gr d bc bs Q X pc lo st S w := by
  intro p e R s m args below meth c Z G ad A hC H locs ls cells slots hR hS hL hc hs
  exact lv_iload hC.1 hC.2.1 hd (hL.at hv rfl) (kk p e R s m args below meth c Z G ad A hC H locs ls cells slots hR hS hL hc hs)
theorem zA_aload_n {k : Fin 4} {a : Nat} (hd : decode M.2.1 pc = .ok (.aload_n k, 1)) (hv : lo[(k : Nat)]? = some (zR a)) (kk : zA l M gr d bc bs Q X (pc + 1) lo (zR a :: st) S w) : zA l M gr d bc bs Q X pc lo st S w := by
  intro p e R s m args below meth c Z G ad A hC H locs ls cells slots hR hS hL hc hs
  exact lv_aload_n hC.1 hC.2.1 hd rfl (hL.at hv rfl) (kk p e R s m args below meth c Z G ad A hC H locs ls cells slots hR hS hL hc hs)
theorem zA_aload {k : Nat} {a : Nat} (hd : decode M.2.1 pc = .ok (.aload k, 2)) (hv : lo[k]? = some (zR a)) (kk : zA l M gr d bc bs Q X (pc + 2) lo (zR a :: st) S w) : zA l M gr d bc bs Q X pc lo st S w := by
  intro p e R s m args below meth c Z G ad A hC H locs ls cells slots hR hS hL hc hs
  exact lv_aload hC.1 hC.2.1 hd (hL.at hv rfl) (kk p e R s m args below meth c Z G ad A hC H locs ls cells slots hR hS hL hc hs)
theorem zA_lload_n {k : Fin 4} {a : Int} (hd : decode M.2.1 pc = .ok (.lload_n k, 1)) (hv : lo[(k : Nat)]? = some (zL a)) (kk : zA l M gr d bc bs Q X (pc + 1) lo (zL a :: st) S w) : zA l M gr d bc bs Q X pc lo st S w := by
  intro p e R s m args below meth c Z G ad A hC H locs ls cells slots hR hS hL hc hs
  exact lv_lload_n hC.1 hC.2.1 hd rfl (hL.at hv rfl) (kk p e R s m args below meth c Z G ad A hC H locs ls cells slots hR hS hL hc hs)
theorem zA_lload {k : Nat} {a : Int} (hd : decode M.2.1 pc = .ok (.lload k, 2)) (hv : lo[k]? = some (zL a)) (kk : zA l M gr d bc bs Q X (pc + 2) lo (zL a :: st) S w) : zA l M gr d bc bs Q X pc lo st S w := by
  intro p e R s m args below meth c Z G ad A hC H locs ls cells slots hR hS hL hc hs
  exact lv_lload hC.1 hC.2.1 hd (hL.at hv rfl) (kk p e R s m args below meth c Z G ad A hC H locs ls cells slots hR hS hL hc hs)
theorem zA_istore_n {k : Fin 4} {a : Int} {lo1 : List Value} (hd : decode M.2.1 pc = .ok (.istore_n k, 1)) (hk : (k : Nat) < M.2.2.1) (hno : znol lo (k : Nat) = true) (hlo : lo.set (k : Nat) (zI a) = lo1) (kk : zA l M gr d bc bs Q X (pc + 1) lo1 st S w) : zA l M gr d bc bs Q X pc lo (zI a :: st) S w := by
  intro p e R s m args below meth c Z G ad A hC H locs ls cells slots hR hS hL hc hs
  subst hlo
  exact lv_istore_n hC.1 hC.2.1 hd rfl (zll_has hL) hk rfl (fun ls' hL' => kk p e R s m args below meth c Z G ad A hC H locs ls' cells slots hR hS (zLk_put hL' hno) hc hs)
theorem zA_istore {k : Nat} {a : Int} {lo1 : List Value} (hd : decode M.2.1 pc = .ok (.istore k, 2)) (hk : k < M.2.2.1) (hno : znol lo k = true) (hlo : lo.set k (zI a) = lo1) (kk : zA l M gr d bc bs Q X (pc + 2) lo1 st S w) : zA l M gr d bc bs Q X pc lo (zI a :: st) S w := by
  intro p e R s m args below meth c Z G ad A hC H locs ls cells slots hR hS hL hc hs
  subst hlo
  exact lv_istore hC.1 hC.2.1 hd (zll_has hL) hk rfl (fun ls' hL' => kk p e R s m args below meth c Z G ad A hC H locs ls' cells slots hR hS (zLk_put hL' hno) hc hs)
theorem zA_astore_n {k : Fin 4} {a : Nat} {lo1 : List Value} (hd : decode M.2.1 pc = .ok (.astore_n k, 1)) (hk : (k : Nat) < M.2.2.1) (hno : znol lo (k : Nat) = true) (hlo : lo.set (k : Nat) (zR a) = lo1) (kk : zA l M gr d bc bs Q X (pc + 1) lo1 st S w) : zA l M gr d bc bs Q X pc lo (zR a :: st) S w := by
  intro p e R s m args below meth c Z G ad A hC H locs ls cells slots hR hS hL hc hs
  subst hlo
  exact lv_astore_n hC.1 hC.2.1 hd rfl (zll_has hL) hk rfl (fun ls' hL' => kk p e R s m args below meth c Z G ad A hC H locs ls' cells slots hR hS (zLk_put hL' hno) hc hs)
theorem zA_astore {k : Nat} {a : Nat} {lo1 : List Value} (hd : decode M.2.1 pc = .ok (.astore k, 2)) (hk : k < M.2.2.1) (hno : znol lo k = true) (hlo : lo.set k (zR a) = lo1) (kk : zA l M gr d bc bs Q X (pc + 2) lo1 st S w) : zA l M gr d bc bs Q X pc lo (zR a :: st) S w := by
  intro p e R s m args below meth c Z G ad A hC H locs ls cells slots hR hS hL hc hs
  subst hlo
  exact lv_astore hC.1 hC.2.1 hd (zll_has hL) hk rfl (fun ls' hL' => kk p e R s m args below meth c Z G ad A hC H locs ls' cells slots hR hS (zLk_put hL' hno) hc hs)
theorem zA_lstore_n {k : Fin 4} {a : Int} {lo1 : List Value} (hd : decode M.2.1 pc = .ok (.lstore_n k, 1)) (hk : (k : Nat) + 1 < M.2.2.1) (hno : znol lo (k : Nat) = true) (hlo : (lo.set (k : Nat) (zL a)).set ((k : Nat) + 1) .null = lo1) (kk : zA l M gr d bc bs Q X (pc + 1) lo1 st S w) : zA l M gr d bc bs Q X pc lo (zL a :: st) S w := by
  intro p e R s m args below meth c Z G ad A hC H locs ls cells slots hR hS hL hc hs
  subst hlo
  exact lv_lstore_n hC.1 hC.2.1 hd rfl (zll_has hL) hk rfl (fun ls' hL' => kk p e R s m args below meth c Z G ad A hC H locs ls' cells slots hR hS (zLk_put2 hL' hno) hc hs)
theorem zA_lstore {k : Nat} {a : Int} {lo1 : List Value} (hd : decode M.2.1 pc = .ok (.lstore k, 2)) (hk : k + 1 < M.2.2.1) (hno : znol lo k = true) (hlo : (lo.set k (zL a)).set (k + 1) .null = lo1) (kk : zA l M gr d bc bs Q X (pc + 2) lo1 st S w) : zA l M gr d bc bs Q X pc lo (zL a :: st) S w := by
  intro p e R s m args below meth c Z G ad A hC H locs ls cells slots hR hS hL hc hs
  subst hlo
  exact lv_lstore hC.1 hC.2.1 hd (zll_has hL) hk rfl (fun ls' hL' => kk p e R s m args below meth c Z G ad A hC H locs ls' cells slots hR hS (zLk_put2 hL' hno) hc hs)
theorem zA_iinc {k : Nat} {n a : Int} {lo1 : List Value} (hd : decode M.2.1 pc = .ok (.iinc k n, 3)) (hv : lo[k]? = some (zI a)) (hk : k < M.2.2.1) (hno : znol lo k = true) (hlo : lo.set k (zI (a + n)) = lo1) (kk : zA l M gr d bc bs Q X (pc + 3) lo1 st S w) : zA l M gr d bc bs Q X pc lo st S w := by
  intro p e R s m args below meth c Z G ad A hC H locs ls cells slots hR hS hL hc hs
  subst hlo
  have hL2 : lv_has ls M.2.2.1 ((k, Value.int (Int32.ofInt a)) :: zll ad lo) := ⟨hL.1.1, hL.1.2.1, fun q hq => by
    rcases List.mem_cons.mp hq with h | h
    · subst h; exact hL.at hv rfl
    · exact (zll_has hL).2.2 q h⟩
  refine lv_iinc (v := Int32.ofInt (a + n)) hC.1 hC.2.1 hd hL2 (k := 0) rfl (Int32.ofInt_add a n).symm hk rfl (fun ls' hL' => kk p e R s m args below meth c Z G ad A hC H locs ls' cells slots hR hS (zLk_put ?_ hno) hc hs)
  simpa [zcv] using hL'
theorem zA_iconst {n : Int} (hd : decode M.2.1 pc = .ok (.iconst n, 1)) (kk : zA l M gr d bc bs Q X (pc + 1) lo (zI n :: st) S w) : zA l M gr d bc bs Q X pc lo st S w := by
  intro p e R s m args below meth c Z G ad A hC H locs ls cells slots hR hS hL hc hs
  exact lv_iconst hC.1 hC.2.1 hd rfl (kk p e R s m args below meth c Z G ad A hC H locs ls cells slots hR hS hL hc hs)
theorem zA_bipush {n : Int} (hd : decode M.2.1 pc = .ok (.bipush n, 2)) (hn : (Int8.ofInt n).toInt32 = Int32.ofInt n) (kk : zA l M gr d bc bs Q X (pc + 2) lo (zI n :: st) S w) : zA l M gr d bc bs Q X pc lo st S w := by
  intro p e R s m args below meth c Z G ad A hC H locs ls cells slots hR hS hL hc hs
  exact lv_bipush hC.1 hC.2.1 hd hn (kk p e R s m args below meth c Z G ad A hC H locs ls cells slots hR hS hL hc hs)
theorem zA_sipush {n : Int} (hd : decode M.2.1 pc = .ok (.sipush n, 3)) (hn : (Int16.ofInt n).toInt32 = Int32.ofInt n) (kk : zA l M gr d bc bs Q X (pc + 3) lo (zI n :: st) S w) : zA l M gr d bc bs Q X pc lo st S w := by
  intro p e R s m args below meth c Z G ad A hC H locs ls cells slots hR hS hL hc hs
  exact lv_sipush hC.1 hC.2.1 hd hn (kk p e R s m args below meth c Z G ad A hC H locs ls cells slots hR hS hL hc hs)
theorem zA_ldc {k : Nat} {n : Int} (hd : decode M.2.1 pc = .ok (.ldc k, 2)) (hw : Cond.constant M.1.cls k (Int32.ofInt n) ∈ zTB) (kk : zA l M gr d bc bs Q X (pc + 2) lo (zI n :: st) S w) : zA l M gr d bc bs Q X pc lo st S w := by
  intro p e R s m args below meth c Z G ad A hC H locs ls cells slots hR hS hL hc hs
  exact lv_ldc hC.1 hC.2.1 hC.2.2.2.1 (hC.2.2.2.2.1 _ hw) hd (kk p e R s m args below meth c Z G ad A hC H locs ls cells slots hR hS hL hc hs)
theorem zA_ldcw {k : Nat} {n : Int} (hd : decode M.2.1 pc = .ok (.ldc_w k, 3)) (hw : Cond.constant M.1.cls k (Int32.ofInt n) ∈ zTB) (kk : zA l M gr d bc bs Q X (pc + 3) lo (zI n :: st) S w) : zA l M gr d bc bs Q X pc lo st S w := by
  intro p e R s m args below meth c Z G ad A hC H locs ls cells slots hR hS hL hc hs
  exact lv_ldcw hC.1 hC.2.1 hC.2.2.2.1 (hC.2.2.2.2.1 _ hw) hd (kk p e R s m args below meth c Z G ad A hC H locs ls cells slots hR hS hL hc hs)
theorem zA_ldcS {k a : Nat} {tx : String} (hd : decode M.2.1 pc = .ok (.ldc k, 2)) (hw : (M.1.cls, k, tx, a) ∈ zrefs) (kk : zA l M gr d bc bs Q X (pc + 2) lo (zR a :: st) S w) : zA l M gr d bc bs Q X pc lo st S w := by
  intro p e R s m args below meth c Z G ad A hC H locs ls cells slots hR hS hL hc hs
  exact va_ldcS hC.1 hC.2.1 hC.2.2.2.1 (hC.2.2.2.2.2.2.2.2.1.2.2.2.2.1 _ hw) hd (kk p e R s m args below meth c Z G ad A hC H locs ls cells slots hR hS hL hc hs)
theorem zA_lconst {n : Fin 2} (hd : decode M.2.1 pc = .ok (.lconst n, 1)) (kk : zA l M gr d bc bs Q X (pc + 1) lo (zL ((n : Nat) : Int) :: st) S w) : zA l M gr d bc bs Q X pc lo st S w := by
  intro p e R s m args below meth c Z G ad A hC H locs ls cells slots hR hS hL hc hs
  exact lv_lconst hC.1 hC.2.1 hd rfl (zW2 Int64.ofInt_eq_ofNat.symm (kk p e R s m args below meth c Z G ad A hC H locs ls cells slots hR hS hL hc hs))
theorem zA_iadd {a b : Int} (hd : decode M.2.1 pc = .ok (.iadd, 1)) (kk : zA l M gr d bc bs Q X (pc + 1) lo (zI (a + b) :: st) S w) : zA l M gr d bc bs Q X pc lo (zI b :: zI a :: st) S w := by
  intro p e R s m args below meth c Z G ad A hC H locs ls cells slots hR hS hL hc hs
  exact lv_iadd hC.1 hC.2.1 hd (zW1 (Int32.ofInt_add a b).symm (kk p e R s m args below meth c Z G ad A hC H locs ls cells slots hR hS hL hc hs))
theorem zA_isub {a b : Int} (hd : decode M.2.1 pc = .ok (.isub, 1)) (kk : zA l M gr d bc bs Q X (pc + 1) lo (zI (a - b) :: st) S w) : zA l M gr d bc bs Q X pc lo (zI b :: zI a :: st) S w := by
  intro p e R s m args below meth c Z G ad A hC H locs ls cells slots hR hS hL hc hs
  exact lv_isub hC.1 hC.2.1 hd (zW1 (Int32.ofInt_sub a b).symm (kk p e R s m args below meth c Z G ad A hC H locs ls cells slots hR hS hL hc hs))
theorem zA_imul {a b : Int} (hd : decode M.2.1 pc = .ok (.imul, 1)) (kk : zA l M gr d bc bs Q X (pc + 1) lo (zI (a * b) :: st) S w) : zA l M gr d bc bs Q X pc lo (zI b :: zI a :: st) S w := by
  intro p e R s m args below meth c Z G ad A hC H locs ls cells slots hR hS hL hc hs
  exact lv_imul hC.1 hC.2.1 hd (zW1 (Int32.ofInt_mul a b).symm (kk p e R s m args below meth c Z G ad A hC H locs ls cells slots hR hS hL hc hs))
theorem zA_ineg {a : Int} (hd : decode M.2.1 pc = .ok (.ineg, 1)) (kk : zA l M gr d bc bs Q X (pc + 1) lo (zI (-a) :: st) S w) : zA l M gr d bc bs Q X pc lo (zI a :: st) S w := by
  intro p e R s m args below meth c Z G ad A hC H locs ls cells slots hR hS hL hc hs
  exact lv_ineg hC.1 hC.2.1 hd (zW1 (Int32.ofInt_neg a).symm (kk p e R s m args below meth c Z G ad A hC H locs ls cells slots hR hS hL hc hs))
theorem zA_lmul {a b : Int} (hd : decode M.2.1 pc = .ok (.lmul, 1)) (kk : zA l M gr d bc bs Q X (pc + 1) lo (zL (a * b) :: st) S w) : zA l M gr d bc bs Q X pc lo (zL b :: zL a :: st) S w := by
  intro p e R s m args below meth c Z G ad A hC H locs ls cells slots hR hS hL hc hs
  exact lv_lmul hC.1 hC.2.1 hd (zW2 (Int64.ofInt_mul a b).symm (kk p e R s m args below meth c Z G ad A hC H locs ls cells slots hR hS hL hc hs))
theorem zA_idiv {a b : Int} (hd : decode M.2.1 pc = .ok (.idiv, 1)) (ha : 0 ≤ a) (hb : 0 < b) (ra : a < 2147483648) (rb : b < 2147483648) (kk : zA l M gr d bc bs Q X (pc + 1) lo (zI (a / b) :: st) S w) : zA l M gr d bc bs Q X pc lo (zI b :: zI a :: st) S w := by
  intro p e R s m args below meth c Z G ad A hC H locs ls cells slots hR hS hL hc hs
  exact lv_idiv hC.1 hC.2.1 hd (fun h => by rw [← Int32.toInt_inj, inR_n ⟨by omega, rb⟩] at h; simp at h; omega) (zW1 (zdiv ha hb ra rb) (kk p e R s m args below meth c Z G ad A hC H locs ls cells slots hR hS hL hc hs))
theorem zA_irem {a b : Int} (hd : decode M.2.1 pc = .ok (.irem, 1)) (ha : 0 ≤ a) (hb : 0 < b) (ra : a < 2147483648) (rb : b < 2147483648) (kk : zA l M gr d bc bs Q X (pc + 1) lo (zI (a % b) :: st) S w) : zA l M gr d bc bs Q X pc lo (zI b :: zI a :: st) S w := by
  intro p e R s m args below meth c Z G ad A hC H locs ls cells slots hR hS hL hc hs
  exact lv_irem hC.1 hC.2.1 hd (fun h => by rw [← Int32.toInt_inj, inR_n ⟨by omega, rb⟩] at h; simp at h; omega) (zW1 (by rw [zdiv ha hb ra rb, ← Int32.ofInt_mul, ← Int32.ofInt_sub, Int.emod_def, Int.mul_comm]) (kk p e R s m args below meth c Z G ad A hC H locs ls cells slots hR hS hL hc hs))
theorem zA_iand {a b : Int} (hd : decode M.2.1 pc = .ok (.iand, 1)) (kk : zA l M gr d bc bs Q X (pc + 1) lo (zI (iAnd a b) :: st) S w) : zA l M gr d bc bs Q X pc lo (zI b :: zI a :: st) S w := by
  intro p e R s m args below meth c Z G ad A hC H locs ls cells slots hR hS hL hc hs
  exact lv_iand hC.1 hC.2.1 hd (zW1 (zof _).symm (kk p e R s m args below meth c Z G ad A hC H locs ls cells slots hR hS hL hc hs))
theorem zA_ior {a b : Int} (hd : decode M.2.1 pc = .ok (.ior, 1)) (kk : zA l M gr d bc bs Q X (pc + 1) lo (zI (iOr a b) :: st) S w) : zA l M gr d bc bs Q X pc lo (zI b :: zI a :: st) S w := by
  intro p e R s m args below meth c Z G ad A hC H locs ls cells slots hR hS hL hc hs
  exact lv_ior hC.1 hC.2.1 hd (zW1 (zof _).symm (kk p e R s m args below meth c Z G ad A hC H locs ls cells slots hR hS hL hc hs))
theorem zA_ixor {a b : Int} (hd : decode M.2.1 pc = .ok (.ixor, 1)) (kk : zA l M gr d bc bs Q X (pc + 1) lo (zI (iXor a b) :: st) S w) : zA l M gr d bc bs Q X pc lo (zI b :: zI a :: st) S w := by
  intro p e R s m args below meth c Z G ad A hC H locs ls cells slots hR hS hL hc hs
  exact lv_ixor hC.1 hC.2.1 hd (zW1 (zof _).symm (kk p e R s m args below meth c Z G ad A hC H locs ls cells slots hR hS hL hc hs))
theorem zA_ishl {a b : Int} (hd : decode M.2.1 pc = .ok (.ishl, 1)) (kk : zA l M gr d bc bs Q X (pc + 1) lo (zI (iShl a b) :: st) S w) : zA l M gr d bc bs Q X pc lo (zI b :: zI a :: st) S w := by
  intro p e R s m args below meth c Z G ad A hC H locs ls cells slots hR hS hL hc hs
  exact lv_ishl hC.1 hC.2.1 hd (zW1 (zof _).symm (kk p e R s m args below meth c Z G ad A hC H locs ls cells slots hR hS hL hc hs))
theorem zA_ishr {a b : Int} (hd : decode M.2.1 pc = .ok (.ishr, 1)) (kk : zA l M gr d bc bs Q X (pc + 1) lo (zI (iShr a b) :: st) S w) : zA l M gr d bc bs Q X pc lo (zI b :: zI a :: st) S w := by
  intro p e R s m args below meth c Z G ad A hC H locs ls cells slots hR hS hL hc hs
  exact lv_ishr hC.1 hC.2.1 hd (zW1 (zof _).symm (kk p e R s m args below meth c Z G ad A hC H locs ls cells slots hR hS hL hc hs))
theorem zA_iushr {a b : Int} (hd : decode M.2.1 pc = .ok (.iushr, 1)) (kk : zA l M gr d bc bs Q X (pc + 1) lo (zI (iUsh a b) :: st) S w) : zA l M gr d bc bs Q X pc lo (zI b :: zI a :: st) S w := by
  intro p e R s m args below meth c Z G ad A hC H locs ls cells slots hR hS hL hc hs
  exact lv_iushr hC.1 hC.2.1 hd (zof _).symm (kk p e R s m args below meth c Z G ad A hC H locs ls cells slots hR hS hL hc hs)
theorem zA_i2l {a : Int} (hd : decode M.2.1 pc = .ok (.i2l, 1)) (ha : inR a) (kk : zA l M gr d bc bs Q X (pc + 1) lo (zL a :: st) S w) : zA l M gr d bc bs Q X pc lo (zI a :: st) S w := by
  intro p e R s m args below meth c Z G ad A hC H locs ls cells slots hR hS hL hc hs
  exact lv_i2l hC.1 hC.2.1 hd (by rw [Int32.toInt64_ofInt (by show -2147483648 ≤ a; exact ha.1) (by show a ≤ 2147483647; have := ha.2; omega)]) (kk p e R s m args below meth c Z G ad A hC H locs ls cells slots hR hS hL hc hs)
theorem zA_dup {v : Value} (hd : decode M.2.1 pc = .ok (.dup, 1)) (hv : v.category = 1) (kk : zA l M gr d bc bs Q X (pc + 1) lo (v :: v :: st) S w) : zA l M gr d bc bs Q X pc lo (v :: st) S w := by
  intro p e R s m args below meth c Z G ad A hC H locs ls cells slots hR hS hL hc hs
  exact lv_dup hC.1 hC.2.1 hd ((zcv_cat ad v).trans hv) (kk p e R s m args below meth c Z G ad A hC H locs ls cells slots hR hS hL hc hs)
theorem zA_dup2 {v u : Value} (hd : decode M.2.1 pc = .ok (.dup2, 1)) (hv : v.category = 1) (hu : u.category = 1) (kk : zA l M gr d bc bs Q X (pc + 1) lo (v :: u :: v :: u :: st) S w) : zA l M gr d bc bs Q X pc lo (v :: u :: st) S w := by
  intro p e R s m args below meth c Z G ad A hC H locs ls cells slots hR hS hL hc hs
  exact lv_dup2_11 hC.1 hC.2.1 hd ((zcv_cat ad v).trans hv) ((zcv_cat ad u).trans hu) (kk p e R s m args below meth c Z G ad A hC H locs ls cells slots hR hS hL hc hs)
theorem zA_pop {v : Value} (hd : decode M.2.1 pc = .ok (.pop, 1)) (hv : v.category = 1) (kk : zA l M gr d bc bs Q X (pc + 1) lo st S w) : zA l M gr d bc bs Q X pc lo (v :: st) S w := by
  intro p e R s m args below meth c Z G ad A hC H locs ls cells slots hR hS hL hc hs
  exact lv_pop hC.1 hC.2.1 hd ((zcv_cat ad v).trans hv) (kk p e R s m args below meth c Z G ad A hC H locs ls cells slots hR hS hL hc hs)
theorem zA_goto {off : Int} {tgt : Nat} (hd : decode M.2.1 pc = .ok (.goto off, 3)) (ht : (pc : Int) + off = (tgt : Int)) (kk : zA l M gr d bc bs Q X tgt lo st S w) : zA l M gr d bc bs Q X pc lo st S w := by
  intro p e R s m args below meth c Z G ad A hC H locs ls cells slots hR hS hL hc hs
  exact lv_goto hC.1 hC.2.1 hd ht (kk p e R s m args below meth c Z G ad A hC H locs ls cells slots hR hS hL hc hs)
theorem zA_icmp_lt {a b off : Int} {tgt : Nat} (hd : decode M.2.1 pc = .ok (.if_icmp .lt off, 3)) (ht : (pc : Int) + off = (tgt : Int)) (ha : inR a) (hb : inR b) (kt : a < b → zA l M gr d bc bs Q X tgt lo st S w) (kf : b ≤ a → zA l M gr d bc bs Q X (pc + 3) lo st S w) : zA l M gr d bc bs Q X pc lo (zI b :: zI a :: st) S w := by
  intro p e R s m args below meth c Z G ad A hC H locs ls cells slots hR hS hL hc hs
  exact lv_icmp_lt hC.1 hC.2.1 hd ht (fun h => kt ((zlt ha hb).mp h) p e R s m args below meth c Z G ad A hC H locs ls cells slots hR hS hL hc hs) (fun h => kf (Int.not_lt.mp (fun h2 => h ((zlt ha hb).mpr h2))) p e R s m args below meth c Z G ad A hC H locs ls cells slots hR hS hL hc hs)
theorem zA_if_lt {a off : Int} {tgt : Nat} (hd : decode M.2.1 pc = .ok (.ifCond .lt off, 3)) (ht : (pc : Int) + off = (tgt : Int)) (ha : inR a) (kt : a < 0 → zA l M gr d bc bs Q X tgt lo st S w) (kf : 0 ≤ a → zA l M gr d bc bs Q X (pc + 3) lo st S w) : zA l M gr d bc bs Q X pc lo (zI a :: st) S w := by
  intro p e R s m args below meth c Z G ad A hC H locs ls cells slots hR hS hL hc hs
  have h00 : inR 0 := ⟨by decide, by decide⟩
  have hz : (0 : Int32) = Int32.ofInt 0 := rfl
  exact lv_if_lt hC.1 hC.2.1 hd ht (fun h => kt ((zlt ha h00).mp h) p e R s m args below meth c Z G ad A hC H locs ls cells slots hR hS hL hc hs) (fun h => kf (Int.not_lt.mp (fun h2 => h ((zlt ha h00).mpr h2))) p e R s m args below meth c Z G ad A hC H locs ls cells slots hR hS hL hc hs)
theorem zA_icmp_ge {a b off : Int} {tgt : Nat} (hd : decode M.2.1 pc = .ok (.if_icmp .ge off, 3)) (ht : (pc : Int) + off = (tgt : Int)) (ha : inR a) (hb : inR b) (kt : b ≤ a → zA l M gr d bc bs Q X tgt lo st S w) (kf : a < b → zA l M gr d bc bs Q X (pc + 3) lo st S w) : zA l M gr d bc bs Q X pc lo (zI b :: zI a :: st) S w := by
  intro p e R s m args below meth c Z G ad A hC H locs ls cells slots hR hS hL hc hs
  exact lv_icmp_ge hC.1 hC.2.1 hd ht (fun h => kt ((zle hb ha).mp h) p e R s m args below meth c Z G ad A hC H locs ls cells slots hR hS hL hc hs) (fun h => kf (Int.not_le.mp (fun h2 => h ((zle hb ha).mpr h2))) p e R s m args below meth c Z G ad A hC H locs ls cells slots hR hS hL hc hs)
theorem zA_if_ge {a off : Int} {tgt : Nat} (hd : decode M.2.1 pc = .ok (.ifCond .ge off, 3)) (ht : (pc : Int) + off = (tgt : Int)) (ha : inR a) (kt : 0 ≤ a → zA l M gr d bc bs Q X tgt lo st S w) (kf : a < 0 → zA l M gr d bc bs Q X (pc + 3) lo st S w) : zA l M gr d bc bs Q X pc lo (zI a :: st) S w := by
  intro p e R s m args below meth c Z G ad A hC H locs ls cells slots hR hS hL hc hs
  have h00 : inR 0 := ⟨by decide, by decide⟩
  have hz : (0 : Int32) = Int32.ofInt 0 := rfl
  exact lv_if_ge hC.1 hC.2.1 hd ht (fun h => kt ((zle h00 ha).mp h) p e R s m args below meth c Z G ad A hC H locs ls cells slots hR hS hL hc hs) (fun h => kf (Int.not_le.mp (fun h2 => h ((zle h00 ha).mpr h2))) p e R s m args below meth c Z G ad A hC H locs ls cells slots hR hS hL hc hs)
theorem zA_icmp_gt {a b off : Int} {tgt : Nat} (hd : decode M.2.1 pc = .ok (.if_icmp .gt off, 3)) (ht : (pc : Int) + off = (tgt : Int)) (ha : inR a) (hb : inR b) (kt : b < a → zA l M gr d bc bs Q X tgt lo st S w) (kf : a ≤ b → zA l M gr d bc bs Q X (pc + 3) lo st S w) : zA l M gr d bc bs Q X pc lo (zI b :: zI a :: st) S w := by
  intro p e R s m args below meth c Z G ad A hC H locs ls cells slots hR hS hL hc hs
  exact lv_icmp_gt hC.1 hC.2.1 hd ht (fun h => kt ((zlt hb ha).mp h) p e R s m args below meth c Z G ad A hC H locs ls cells slots hR hS hL hc hs) (fun h => kf (Int.not_lt.mp (fun h2 => h ((zlt hb ha).mpr h2))) p e R s m args below meth c Z G ad A hC H locs ls cells slots hR hS hL hc hs)
theorem zA_if_gt {a off : Int} {tgt : Nat} (hd : decode M.2.1 pc = .ok (.ifCond .gt off, 3)) (ht : (pc : Int) + off = (tgt : Int)) (ha : inR a) (kt : 0 < a → zA l M gr d bc bs Q X tgt lo st S w) (kf : a ≤ 0 → zA l M gr d bc bs Q X (pc + 3) lo st S w) : zA l M gr d bc bs Q X pc lo (zI a :: st) S w := by
  intro p e R s m args below meth c Z G ad A hC H locs ls cells slots hR hS hL hc hs
  have h00 : inR 0 := ⟨by decide, by decide⟩
  have hz : (0 : Int32) = Int32.ofInt 0 := rfl
  exact lv_if_gt hC.1 hC.2.1 hd ht (fun h => kt ((zlt h00 ha).mp h) p e R s m args below meth c Z G ad A hC H locs ls cells slots hR hS hL hc hs) (fun h => kf (Int.not_lt.mp (fun h2 => h ((zlt h00 ha).mpr h2))) p e R s m args below meth c Z G ad A hC H locs ls cells slots hR hS hL hc hs)
theorem zA_icmp_le {a b off : Int} {tgt : Nat} (hd : decode M.2.1 pc = .ok (.if_icmp .le off, 3)) (ht : (pc : Int) + off = (tgt : Int)) (ha : inR a) (hb : inR b) (kt : a ≤ b → zA l M gr d bc bs Q X tgt lo st S w) (kf : b < a → zA l M gr d bc bs Q X (pc + 3) lo st S w) : zA l M gr d bc bs Q X pc lo (zI b :: zI a :: st) S w := by
  intro p e R s m args below meth c Z G ad A hC H locs ls cells slots hR hS hL hc hs
  exact lv_icmp_le hC.1 hC.2.1 hd ht (fun h => kt ((zle ha hb).mp h) p e R s m args below meth c Z G ad A hC H locs ls cells slots hR hS hL hc hs) (fun h => kf (Int.not_le.mp (fun h2 => h ((zle ha hb).mpr h2))) p e R s m args below meth c Z G ad A hC H locs ls cells slots hR hS hL hc hs)
theorem zA_if_le {a off : Int} {tgt : Nat} (hd : decode M.2.1 pc = .ok (.ifCond .le off, 3)) (ht : (pc : Int) + off = (tgt : Int)) (ha : inR a) (kt : a ≤ 0 → zA l M gr d bc bs Q X tgt lo st S w) (kf : 0 < a → zA l M gr d bc bs Q X (pc + 3) lo st S w) : zA l M gr d bc bs Q X pc lo (zI a :: st) S w := by
  intro p e R s m args below meth c Z G ad A hC H locs ls cells slots hR hS hL hc hs
  have h00 : inR 0 := ⟨by decide, by decide⟩
  have hz : (0 : Int32) = Int32.ofInt 0 := rfl
  exact lv_if_le hC.1 hC.2.1 hd ht (fun h => kt ((zle ha h00).mp h) p e R s m args below meth c Z G ad A hC H locs ls cells slots hR hS hL hc hs) (fun h => kf (Int.not_le.mp (fun h2 => h ((zle ha h00).mpr h2))) p e R s m args below meth c Z G ad A hC H locs ls cells slots hR hS hL hc hs)
theorem zA_icmp_eq {a b off : Int} {tgt : Nat} (hd : decode M.2.1 pc = .ok (.if_icmp .eq off, 3)) (ht : (pc : Int) + off = (tgt : Int)) (ha : inR a) (hb : inR b) (kt : a = b → zA l M gr d bc bs Q X tgt lo st S w) (kf : a ≠ b → zA l M gr d bc bs Q X (pc + 3) lo st S w) : zA l M gr d bc bs Q X pc lo (zI b :: zI a :: st) S w := by
  intro p e R s m args below meth c Z G ad A hC H locs ls cells slots hR hS hL hc hs
  exact lv_icmp_eq hC.1 hC.2.1 hd ht (fun h => kt ((zeq ha hb).mp h) p e R s m args below meth c Z G ad A hC H locs ls cells slots hR hS hL hc hs) (fun h => kf (fun h2 => h ((zeq ha hb).mpr h2)) p e R s m args below meth c Z G ad A hC H locs ls cells slots hR hS hL hc hs)
theorem zA_if_eq {a off : Int} {tgt : Nat} (hd : decode M.2.1 pc = .ok (.ifCond .eq off, 3)) (ht : (pc : Int) + off = (tgt : Int)) (ha : inR a) (kt : a = 0 → zA l M gr d bc bs Q X tgt lo st S w) (kf : a ≠ 0 → zA l M gr d bc bs Q X (pc + 3) lo st S w) : zA l M gr d bc bs Q X pc lo (zI a :: st) S w := by
  intro p e R s m args below meth c Z G ad A hC H locs ls cells slots hR hS hL hc hs
  have h00 : inR 0 := ⟨by decide, by decide⟩
  have hz : (0 : Int32) = Int32.ofInt 0 := rfl
  exact lv_if_eq hC.1 hC.2.1 hd ht (fun h => kt ((zeq ha h00).mp h) p e R s m args below meth c Z G ad A hC H locs ls cells slots hR hS hL hc hs) (fun h => kf (fun h2 => h ((zeq ha h00).mpr h2)) p e R s m args below meth c Z G ad A hC H locs ls cells slots hR hS hL hc hs)
theorem zA_icmp_ne {a b off : Int} {tgt : Nat} (hd : decode M.2.1 pc = .ok (.if_icmp .ne off, 3)) (ht : (pc : Int) + off = (tgt : Int)) (ha : inR a) (hb : inR b) (kt : a ≠ b → zA l M gr d bc bs Q X tgt lo st S w) (kf : a = b → zA l M gr d bc bs Q X (pc + 3) lo st S w) : zA l M gr d bc bs Q X pc lo (zI b :: zI a :: st) S w := by
  intro p e R s m args below meth c Z G ad A hC H locs ls cells slots hR hS hL hc hs
  exact lv_icmp_ne hC.1 hC.2.1 hd ht (fun h => kt (fun h2 => h ((zeq ha hb).mpr h2)) p e R s m args below meth c Z G ad A hC H locs ls cells slots hR hS hL hc hs) (fun h => kf ((zeq ha hb).mp h) p e R s m args below meth c Z G ad A hC H locs ls cells slots hR hS hL hc hs)
theorem zA_if_ne {a off : Int} {tgt : Nat} (hd : decode M.2.1 pc = .ok (.ifCond .ne off, 3)) (ht : (pc : Int) + off = (tgt : Int)) (ha : inR a) (kt : a ≠ 0 → zA l M gr d bc bs Q X tgt lo st S w) (kf : a = 0 → zA l M gr d bc bs Q X (pc + 3) lo st S w) : zA l M gr d bc bs Q X pc lo (zI a :: st) S w := by
  intro p e R s m args below meth c Z G ad A hC H locs ls cells slots hR hS hL hc hs
  have h00 : inR 0 := ⟨by decide, by decide⟩
  have hz : (0 : Int32) = Int32.ofInt 0 := rfl
  exact lv_if_ne hC.1 hC.2.1 hd ht (fun h => kt (fun h2 => h ((zeq ha h00).mpr h2)) p e R s m args below meth c Z G ad A hC H locs ls cells slots hR hS hL hc hs) (fun h => kf ((zeq ha h00).mp h) p e R s m args below meth c Z G ad A hC H locs ls cells slots hR hS hL hc hs)
theorem zA_lcmp {a b : Int} (hd : decode M.2.1 pc = .ok (.lcmp, 1)) (ha : -9223372036854775808 ≤ a ∧ a < 9223372036854775808) (hb : -9223372036854775808 ≤ b ∧ b < 9223372036854775808) (kk : zA l M gr d bc bs Q X (pc + 1) lo (zI (if b < a then 1 else if a < b then -1 else 0) :: st) S w) : zA l M gr d bc bs Q X pc lo (zL b :: zL a :: st) S w := by
  intro p e R s m args below meth c Z G ad A hC H locs ls cells slots hR hS hL hc hs
  refine W.lcmp hC.1 hC.2.1 hd (zW1 ?_ (kk p e R s m args below meth c Z G ad A hC H locs ls cells slots hR hS hL hc hs))
  have e1 : (Int64.ofInt a).toInt = a := Int64.toInt_ofInt_of_le ha.1 ha.2
  have e2 : (Int64.ofInt b).toInt = b := Int64.toInt_ofInt_of_le hb.1 hb.2
  unfold lg_cmp
  have e3 : Int64.ofInt a > Int64.ofInt b ↔ b < a := by rw [gt_iff_lt, Int64.lt_iff_toInt_lt, e1, e2]
  have e4 : Int64.ofInt a = Int64.ofInt b ↔ a = b := by rw [← Int64.toInt_inj, e1, e2]
  by_cases h1 : b < a
  · rw [if_pos (e3.mpr h1), if_pos h1]; rfl
  · rw [if_neg (fun h => h1 (e3.mp h)), if_neg h1]
    by_cases h2 : a = b
    · rw [if_pos (e4.mpr h2), if_neg (by omega)]; rfl
    · rw [if_neg (fun h => h2 (e4.mp h)), if_pos (by omega)]; rfl
theorem zA_tableIn {dflt tl th off : Int} {offs : Array Int} {len tgt : Nat} {a : Int} (hd : decode M.2.1 pc = .ok (.tableswitch dflt tl th offs, len)) (ha : inR a) (h1 : tl ≤ a) (h2 : a ≤ th) (ho : offs[(a - tl).toNat]? = some off) (ht : (pc : Int) + off = (tgt : Int)) (kk : zA l M gr d bc bs Q X tgt lo st S w) : zA l M gr d bc bs Q X pc lo (zI a :: st) S w := by
  intro p e R s m args below meth c Z G ad A hC H locs ls cells slots hR hS hL hc hs
  exact lv_tableIn hC.1 hC.2.1 hd (by rw [inR_n ha]; omega) (by rw [inR_n ha]; omega) (by rw [inR_n ha]; exact ho) ht (kk p e R s m args below meth c Z G ad A hC H locs ls cells slots hR hS hL hc hs)
theorem zA_tableOut {dflt tl th : Int} {offs : Array Int} {len tgt : Nat} {a : Int} (hd : decode M.2.1 pc = .ok (.tableswitch dflt tl th offs, len)) (ha : inR a) (h : a < tl ∨ th < a) (ht : (pc : Int) + dflt = (tgt : Int)) (kk : zA l M gr d bc bs Q X tgt lo st S w) : zA l M gr d bc bs Q X pc lo (zI a :: st) S w := by
  intro p e R s m args below meth c Z G ad A hC H locs ls cells slots hR hS hL hc hs
  exact lv_tableOut hC.1 hC.2.1 hd (by rw [inR_n ha]; exact h) ht (kk p e R s m args below meth c Z G ad A hC H locs ls cells slots hR hS hL hc hs)
theorem zA_ret {v : Option Value} (hd : zRd M pc v) (hq : Q v S w) : zA l M gr d bc bs Q X pc lo v.toList S w := by
  intro p e R s m args below meth c Z G ad A hC H locs ls cells slots hR hS hL hc hs
  exact hC.2.2.2.2.2.2.2.2.2.2.1 v S w H locs ls cells slots pc hq hR hS (by omega) (by omega) hd
theorem zA_range (kk : (∀ c i, inR (w c i)) → zA l M gr d bc bs Q X pc lo st S w) : zA l M gr d bc bs Q X pc lo st S w := by
  intro p e R s m args below meth c Z G ad A hC H locs ls cells slots hR hS hL hc hs
  exact kk hR.2.2.2.1 p e R s m args below meth c Z G ad A hC H locs ls cells slots hR hS hL hc hs
theorem zA_throw {cls tx : String} {wide : Bool} {ik is ic sa : Nat} (hth : zThS M pc cls wide ik is ic) (hw : (M.1.cls, is, tx, sa) ∈ zrefs) (hgr : gr = false) (hh : M.2.2.2.2 = []) (hcat : (st.map fun v => v.category).sum ≤ 8) (hb : 1 ≤ bc ∧ 6 ≤ bs) (hx : X cls S w) : zA l M gr d bc bs Q X pc lo st S w := by
  intro p e R s m args below meth c Z G ad A hC H locs ls cells slots hR hS hL hc hs
  exact hC.2.2.2.2.2.2.2.2.2.2.2.2.1 cls tx wide ik is ic (ad sa) S w H locs ls cells slots pc _ hx hgr hR hS (hL.1.1.trans hC.2.2.1.symm) (by rw [zcv_sum]; exact hcat) (by omega) (by omega) hh hth (hC.2.2.2.2.2.2.2.2.1.2.2.2.2.1 _ hw)
end ZO
