/-! THE LAW'S JUDGEMENT: zA with the script beside it -/
abbrev mL_law : zM := (yL_law, cL_law, 7, (some .boolean), [])
def zE (L : Nat) (xs : Nat → Int32) (l : Launch) (M : zM) (d : Nat) (Q : Option Value → zS → zW → Prop) (X : String → zS → zW → Prop) (p : Program) (e : Env) (R : Room) (s : State) (m : MethodId) (args : Array Value) (below : List Frame) (meth : Method) (c : Code) (Z : State → Prop) (G : zG) (ad : Nat → Nat) (A : Nat → Prop) : Prop :=
  args = #[.ref (ad 4000)] ∧ va_X (ad 4000) L xs s s.heap ∧ ad 4000 < s.heap.size ∧ ¬ A (ad 4000) ∧ zCx l M false d Q X p e R s m args below meth c Z G ad A
def zB (L : Nat) (xs : Nat → Int32) (l : Launch) (M : zM) (gr : Bool) (d bc bs : Nat) (Q : Option Value → zS → zW → Prop) (X : String → zS → zW → Prop) (pc : Nat) (lo st : List Value) (S : zS) (w : zW) : Prop :=
  ∀ (p : Program) (e : Env) (R : Room) (s : State) (m : MethodId) (args : Array Value) (below : List Frame) (meth : Method) (c : Code) (Z : State → Prop) (G : zG) (ad : Nat → Nat) (A : Nat → Prop), (zCx l M gr d Q X p e R s m args below meth c Z G ad A ∧ zE L xs l M d Q X p e R s m args below meth c Z G ad A) →
  ∀ (H : Heap) (locs : List Loc) (ls : Array Slot) (cells slots : Nat), zRp G ad gr S w A s H → va_S A s.heap H locs → zLk ad ls M.2.2.1 lo → cells + bc ≤ R.cells → slots + bs ≤ R.slots → W p l e R s m args below meth c H locs cells slots Z (F0 m pc ls (st.map (zcv ad)))
section ZB
variable {L : Nat} {xs : Nat → Int32} {l : Launch} {M : zM} {gr : Bool} {d bc bs : Nat} {Q : Option Value → zS → zW → Prop} {X : String → zS → zW → Prop} {pc : Nat} {lo st : List Value} {S : zS} {w : zW}
theorem zB_aload_n {k : Fin 4} {a : Nat} (hd : decode M.2.1 pc = .ok (.aload_n k, 1)) (hv : lo[(k : Nat)]? = some (zR a)) (kk : zB L xs l M gr d bc bs Q X (pc + 1) lo (zR a :: st) S w) : zB L xs l M gr d bc bs Q X pc lo st S w := by
  intro p e R s m args below meth c Z G ad A hC H locs ls cells slots hR hS hL hc hs
  exact lv_aload_n hC.1.1 hC.1.2.1 hd rfl (hL.at hv rfl) (kk p e R s m args below meth c Z G ad A hC H locs ls cells slots hR hS hL hc hs)
theorem zB_iload {k : Nat} {a : Int} (hd : decode M.2.1 pc = .ok (.iload k, 2)) (hv : lo[k]? = some (zI a)) (kk : zB L xs l M gr d bc bs Q X (pc + 2) lo (zI a :: st) S w) : zB L xs l M gr d bc bs Q X pc lo st S w := by
  intro p e R s m args below meth c Z G ad A hC H locs ls cells slots hR hS hL hc hs
  exact lv_iload hC.1.1 hC.1.2.1 hd (hL.at hv rfl) (kk p e R s m args below meth c Z G ad A hC H locs ls cells slots hR hS hL hc hs)
theorem zB_iconst {n : Int} (hd : decode M.2.1 pc = .ok (.iconst n, 1)) (kk : zB L xs l M gr d bc bs Q X (pc + 1) lo (zI n :: st) S w) : zB L xs l M gr d bc bs Q X pc lo st S w := by
  intro p e R s m args below meth c Z G ad A hC H locs ls cells slots hR hS hL hc hs
  exact lv_iconst hC.1.1 hC.1.2.1 hd rfl (kk p e R s m args below meth c Z G ad A hC H locs ls cells slots hR hS hL hc hs)
theorem zB_iadd {a b : Int} (hd : decode M.2.1 pc = .ok (.iadd, 1)) (kk : zB L xs l M gr d bc bs Q X (pc + 1) lo (zI (a + b) :: st) S w) : zB L xs l M gr d bc bs Q X pc lo (zI b :: zI a :: st) S w := by
  intro p e R s m args below meth c Z G ad A hC H locs ls cells slots hR hS hL hc hs
  exact lv_iadd hC.1.1 hC.1.2.1 hd (zW1 (Int32.ofInt_add a b).symm (kk p e R s m args below meth c Z G ad A hC H locs ls cells slots hR hS hL hc hs))
theorem zB_isub {a b : Int} (hd : decode M.2.1 pc = .ok (.isub, 1)) (kk : zB L xs l M gr d bc bs Q X (pc + 1) lo (zI (a - b) :: st) S w) : zB L xs l M gr d bc bs Q X pc lo (zI b :: zI a :: st) S w := by
  intro p e R s m args below meth c Z G ad A hC H locs ls cells slots hR hS hL hc hs
  exact lv_isub hC.1.1 hC.1.2.1 hd (zW1 (Int32.ofInt_sub a b).symm (kk p e R s m args below meth c Z G ad A hC H locs ls cells slots hR hS hL hc hs))
theorem zB_iand {a b : Int} (hd : decode M.2.1 pc = .ok (.iand, 1)) (kk : zB L xs l M gr d bc bs Q X (pc + 1) lo (zI (iAnd a b) :: st) S w) : zB L xs l M gr d bc bs Q X pc lo (zI b :: zI a :: st) S w := by
  intro p e R s m args below meth c Z G ad A hC H locs ls cells slots hR hS hL hc hs
  exact lv_iand hC.1.1 hC.1.2.1 hd (zW1 (zof _).symm (kk p e R s m args below meth c Z G ad A hC H locs ls cells slots hR hS hL hc hs))
theorem zB_bipush {n : Int} (hd : decode M.2.1 pc = .ok (.bipush n, 2)) (hn : (Int8.ofInt n).toInt32 = Int32.ofInt n) (kk : zB L xs l M gr d bc bs Q X (pc + 2) lo (zI n :: st) S w) : zB L xs l M gr d bc bs Q X pc lo st S w := by
  intro p e R s m args below meth c Z G ad A hC H locs ls cells slots hR hS hL hc hs
  exact lv_bipush hC.1.1 hC.1.2.1 hd hn (kk p e R s m args below meth c Z G ad A hC H locs ls cells slots hR hS hL hc hs)
theorem zB_i2l {a : Int} (hd : decode M.2.1 pc = .ok (.i2l, 1)) (ha : inR a) (kk : zB L xs l M gr d bc bs Q X (pc + 1) lo (zL a :: st) S w) : zB L xs l M gr d bc bs Q X pc lo (zI a :: st) S w := by
  intro p e R s m args below meth c Z G ad A hC H locs ls cells slots hR hS hL hc hs
  exact lv_i2l hC.1.1 hC.1.2.1 hd (by rw [Int32.toInt64_ofInt (by show -2147483648 ≤ a; exact ha.1) (by show a ≤ 2147483647; have := ha.2; omega)]) (kk p e R s m args below meth c Z G ad A hC H locs ls cells slots hR hS hL hc hs)
theorem zB_istore {k : Nat} {a : Int} {lo1 : List Value} (hd : decode M.2.1 pc = .ok (.istore k, 2)) (hk : k < M.2.2.1) (hno : znol lo k = true) (hlo : lo.set k (zI a) = lo1) (kk : zB L xs l M gr d bc bs Q X (pc + 2) lo1 st S w) : zB L xs l M gr d bc bs Q X pc lo (zI a :: st) S w := by
  intro p e R s m args below meth c Z G ad A hC H locs ls cells slots hR hS hL hc hs
  subst hlo
  exact lv_istore hC.1.1 hC.1.2.1 hd (zll_has hL) hk rfl (fun ls' hL' => kk p e R s m args below meth c Z G ad A hC H locs ls' cells slots hR hS (zLk_put hL' hno) hc hs)
theorem zB_astore_n {k : Fin 4} {a : Nat} {lo1 : List Value} (hd : decode M.2.1 pc = .ok (.astore_n k, 1)) (hk : (k : Nat) < M.2.2.1) (hno : znol lo (k : Nat) = true) (hlo : lo.set (k : Nat) (zR a) = lo1) (kk : zB L xs l M gr d bc bs Q X (pc + 1) lo1 st S w) : zB L xs l M gr d bc bs Q X pc lo (zR a :: st) S w := by
  intro p e R s m args below meth c Z G ad A hC H locs ls cells slots hR hS hL hc hs
  subst hlo
  exact lv_astore_n hC.1.1 hC.1.2.1 hd rfl (zll_has hL) hk rfl (fun ls' hL' => kk p e R s m args below meth c Z G ad A hC H locs ls' cells slots hR hS (zLk_put hL' hno) hc hs)
theorem zB_aload {k : Nat} {a : Nat} (hd : decode M.2.1 pc = .ok (.aload k, 2)) (hv : lo[k]? = some (zR a)) (kk : zB L xs l M gr d bc bs Q X (pc + 2) lo (zR a :: st) S w) : zB L xs l M gr d bc bs Q X pc lo st S w := by
  intro p e R s m args below meth c Z G ad A hC H locs ls cells slots hR hS hL hc hs
  exact lv_aload hC.1.1 hC.1.2.1 hd (hL.at hv rfl) (kk p e R s m args below meth c Z G ad A hC H locs ls cells slots hR hS hL hc hs)
theorem zB_goto {off : Int} {tgt : Nat} (hd : decode M.2.1 pc = .ok (.goto off, 3)) (ht : (pc : Int) + off = (tgt : Int)) (kk : zB L xs l M gr d bc bs Q X tgt lo st S w) : zB L xs l M gr d bc bs Q X pc lo st S w := by
  intro p e R s m args below meth c Z G ad A hC H locs ls cells slots hR hS hL hc hs
  exact lv_goto hC.1.1 hC.1.2.1 hd ht (kk p e R s m args below meth c Z G ad A hC H locs ls cells slots hR hS hL hc hs)
theorem zB_icmp_eq {a b off : Int} {tgt : Nat} (hd : decode M.2.1 pc = .ok (.if_icmp .eq off, 3)) (ht : (pc : Int) + off = (tgt : Int)) (ha : inR a) (hb : inR b) (kt : a = b → zB L xs l M gr d bc bs Q X tgt lo st S w) (kf : a ≠ b → zB L xs l M gr d bc bs Q X (pc + 3) lo st S w) : zB L xs l M gr d bc bs Q X pc lo (zI b :: zI a :: st) S w := by
  intro p e R s m args below meth c Z G ad A hC H locs ls cells slots hR hS hL hc hs
  exact lv_icmp_eq hC.1.1 hC.1.2.1 hd ht (fun h => kt ((zeq ha hb).mp h) p e R s m args below meth c Z G ad A hC H locs ls cells slots hR hS hL hc hs) (fun h => kf (fun h2 => h ((zeq ha hb).mpr h2)) p e R s m args below meth c Z G ad A hC H locs ls cells slots hR hS hL hc hs)
theorem zB_icmp_gt {a b off : Int} {tgt : Nat} (hd : decode M.2.1 pc = .ok (.if_icmp .gt off, 3)) (ht : (pc : Int) + off = (tgt : Int)) (ha : inR a) (hb : inR b) (kt : b < a → zB L xs l M gr d bc bs Q X tgt lo st S w) (kf : a ≤ b → zB L xs l M gr d bc bs Q X (pc + 3) lo st S w) : zB L xs l M gr d bc bs Q X pc lo (zI b :: zI a :: st) S w := by
  intro p e R s m args below meth c Z G ad A hC H locs ls cells slots hR hS hL hc hs
  exact lv_icmp_gt hC.1.1 hC.1.2.1 hd ht (fun h => kt ((zlt hb ha).mp h) p e R s m args below meth c Z G ad A hC H locs ls cells slots hR hS hL hc hs) (fun h => kf (Int.not_lt.mp (fun h2 => h ((zlt hb ha).mpr h2))) p e R s m args below meth c Z G ad A hC H locs ls cells slots hR hS hL hc hs)
theorem zB_if_eq {a off : Int} {tgt : Nat} (hd : decode M.2.1 pc = .ok (.ifCond .eq off, 3)) (ht : (pc : Int) + off = (tgt : Int)) (ha : inR a) (kt : a = 0 → zB L xs l M gr d bc bs Q X tgt lo st S w) (kf : a ≠ 0 → zB L xs l M gr d bc bs Q X (pc + 3) lo st S w) : zB L xs l M gr d bc bs Q X pc lo (zI a :: st) S w := by
  intro p e R s m args below meth c Z G ad A hC H locs ls cells slots hR hS hL hc hs
  have h00 : inR 0 := ⟨by decide, by decide⟩
  have hz : (0 : Int32) = Int32.ofInt 0 := rfl
  exact lv_if_eq hC.1.1 hC.1.2.1 hd ht (fun h => kt ((zeq ha h00).mp h) p e R s m args below meth c Z G ad A hC H locs ls cells slots hR hS hL hc hs) (fun h => kf (fun h2 => h ((zeq ha h00).mpr h2)) p e R s m args below meth c Z G ad A hC H locs ls cells slots hR hS hL hc hs)
theorem zB_if_ne {a off : Int} {tgt : Nat} (hd : decode M.2.1 pc = .ok (.ifCond .ne off, 3)) (ht : (pc : Int) + off = (tgt : Int)) (ha : inR a) (kt : a ≠ 0 → zB L xs l M gr d bc bs Q X tgt lo st S w) (kf : a = 0 → zB L xs l M gr d bc bs Q X (pc + 3) lo st S w) : zB L xs l M gr d bc bs Q X pc lo (zI a :: st) S w := by
  intro p e R s m args below meth c Z G ad A hC H locs ls cells slots hR hS hL hc hs
  have h00 : inR 0 := ⟨by decide, by decide⟩
  have hz : (0 : Int32) = Int32.ofInt 0 := rfl
  exact lv_if_ne hC.1.1 hC.1.2.1 hd ht (fun h => kt (fun h2 => h ((zeq ha h00).mpr h2)) p e R s m args below meth c Z G ad A hC H locs ls cells slots hR hS hL hc hs) (fun h => kf ((zeq ha h00).mp h) p e R s m args below meth c Z G ad A hC H locs ls cells slots hR hS hL hc hs)
theorem zB_lcmp {a b : Int} (hd : decode M.2.1 pc = .ok (.lcmp, 1)) (ha : -9223372036854775808 ≤ a ∧ a < 9223372036854775808) (hb : -9223372036854775808 ≤ b ∧ b < 9223372036854775808) (kk : zB L xs l M gr d bc bs Q X (pc + 1) lo (zI (if b < a then 1 else if a < b then -1 else 0) :: st) S w) : zB L xs l M gr d bc bs Q X pc lo (zL b :: zL a :: st) S w := by
  intro p e R s m args below meth c Z G ad A hC H locs ls cells slots hR hS hL hc hs
  refine W.lcmp hC.1.1 hC.1.2.1 hd (zW1 ?_ (kk p e R s m args below meth c Z G ad A hC H locs ls cells slots hR hS hL hc hs))
  have e1 : (Int64.ofInt a).toInt = a := Int64.toInt_ofInt_of_le ha.1 ha.2
  have e2 : (Int64.ofInt b).toInt = b := Int64.toInt_ofInt_of_le hb.1 hb.2
  unfold lg_cmp
  have e3 : Int64.ofInt a > Int64.ofInt b ↔ b < a := by rw [gt_iff_lt, Int64.lt_iff_toInt_lt, e1, e2]
  have e4 : Int64.ofInt a = Int64.ofInt b ↔ a = b := by rw [← Int64.toInt_inj, e1, e2]
  by_cases h1 : b < a
  · rw [if_pos (e3.mpr h1), if_pos h1]; rfl
  · rw [if_neg (fun h => h1 (e3.mp h)), if_neg h1]
    by_cases h2 : a = b
    · rw [if_pos (e4.mpr h2), if_neg (by omega)]; rfl
    · rw [if_neg (fun h => h2 (e4.mp h)), if_pos (by omega)]; rfl
theorem zB_lconst {n : Fin 2} (hd : decode M.2.1 pc = .ok (.lconst n, 1)) (kk : zB L xs l M gr d bc bs Q X (pc + 1) lo (zL ((n : Nat) : Int) :: st) S w) : zB L xs l M gr d bc bs Q X pc lo st S w := by
  intro p e R s m args below meth c Z G ad A hC H locs ls cells slots hR hS hL hc hs
  exact lv_lconst hC.1.1 hC.1.2.1 hd rfl (zW2 Int64.ofInt_eq_ofNat.symm (kk p e R s m args below meth c Z G ad A hC H locs ls cells slots hR hS hL hc hs))
theorem zB_tableIn {dflt tl th off : Int} {offs : Array Int} {len tgt : Nat} {a : Int} (hd : decode M.2.1 pc = .ok (.tableswitch dflt tl th offs, len)) (ha : inR a) (h1 : tl ≤ a) (h2 : a ≤ th) (ho : offs[(a - tl).toNat]? = some off) (ht : (pc : Int) + off = (tgt : Int)) (kk : zB L xs l M gr d bc bs Q X tgt lo st S w) : zB L xs l M gr d bc bs Q X pc lo (zI a :: st) S w := by
  intro p e R s m args below meth c Z G ad A hC H locs ls cells slots hR hS hL hc hs
  exact lv_tableIn hC.1.1 hC.1.2.1 hd (by rw [inR_n ha]; omega) (by rw [inR_n ha]; omega) (by rw [inR_n ha]; exact ho) ht (kk p e R s m args below meth c Z G ad A hC H locs ls cells slots hR hS hL hc hs)
theorem zB_tableOut {dflt tl th : Int} {offs : Array Int} {len tgt : Nat} {a : Int} (hd : decode M.2.1 pc = .ok (.tableswitch dflt tl th offs, len)) (ha : inR a) (h : a < tl ∨ th < a) (ht : (pc : Int) + dflt = (tgt : Int)) (kk : zB L xs l M gr d bc bs Q X tgt lo st S w) : zB L xs l M gr d bc bs Q X pc lo (zI a :: st) S w := by
  intro p e R s m args below meth c Z G ad A hC H locs ls cells slots hR hS hL hc hs
  exact lv_tableOut hC.1.1 hC.1.2.1 hd (by rw [inR_n ha]; exact h) ht (kk p e R s m args below meth c Z G ad A hC H locs ls cells slots hR hS hL hc hs)
theorem zB_range (kk : (∀ c i, inR (w c i)) → zB L xs l M gr d bc bs Q X pc lo st S w) : zB L xs l M gr d bc bs Q X pc lo st S w := by
  intro p e R s m args below meth c Z G ad A hC H locs ls cells slots hR hS hL hc hs
  exact kk hR.2.2.2.1 p e R s m args below meth c Z G ad A hC H locs ls cells slots hR hS hL hc hs
theorem zB_ret {v : Option Value} (hd : zRd M pc v) (hq : Q v S w) : zB L xs l M gr d bc bs Q X pc lo v.toList S w := by
  intro p e R s m args below meth c Z G ad A hC H locs ls cells slots hR hS hL hc hs
  exact hC.1.2.2.2.2.2.2.2.2.2.2.1 v S w H locs ls cells slots pc hq hR hS (by omega) (by omega) hd
theorem zB_laload {c0 n : Nat} {i : Int} (hd : decode M.2.1 pc = .ok (.laload, 1)) (hc0 : S[c0]? = some (.inl (2, n))) (h0 : 0 ≤ i) (h1 : i < (n : Int)) (hn : n < 2147483648 := by decide) (kk : zB L xs l M gr d bc bs Q X (pc + 1) lo (zL (w c0 i) :: st) S w) : zB L xs l M gr d bc bs Q X pc lo (zI i :: zR c0 :: st) S w := by
  intro p e R s m args below meth c Z G ad A hC H locs ls cells slots hR hS hL hc hs
  obtain ⟨hi1, hi2⟩ := zix h0 h1 hn
  have hi3 : ((i.toNat : Nat) : Int) = i := Int.toNat_of_nonneg h0
  refine va_lald hC.1.1 hC.1.2.1 hR.2.1 hR.1 c0 2 (zcs_get hc0) rfl hi1 hd ?_
  have := kk p e R s m args below meth c Z G ad A hC H locs ls cells slots hR hS hL hc hs
  rw [hi2, hi3]
  exact this
theorem zB_iinc {k : Nat} {n a : Int} {lo1 : List Value} (hd : decode M.2.1 pc = .ok (.iinc k n, 3)) (hv : lo[k]? = some (zI a)) (hk : k < M.2.2.1) (hno : znol lo k = true) (hlo : lo.set k (zI (a + n)) = lo1) (kk : zB L xs l M gr d bc bs Q X (pc + 3) lo1 st S w) : zB L xs l M gr d bc bs Q X pc lo st S w := by
  intro p e R s m args below meth c Z G ad A hC H locs ls cells slots hR hS hL hc hs
  subst hlo
  have hL2 : lv_has ls M.2.2.1 ((k, Value.int (Int32.ofInt a)) :: zll ad lo) := ⟨hL.1.1, hL.1.2.1, fun q hq => by
    rcases List.mem_cons.mp hq with h | h
    · subst h; exact hL.at hv rfl
    · exact (zll_has hL).2.2 q h⟩
  refine lv_iinc (v := Int32.ofInt (a + n)) hC.1.1 hC.1.2.1 hd hL2 (k := 0) rfl (Int32.ofInt_add a n).symm hk rfl (fun ls' hL' => kk p e R s m args below meth c Z G ad A hC H locs ls' cells slots hR hS (zLk_put ?_ hno) hc hs)
  simpa [zcv] using hL'
theorem zB_dup {v : Value} (hd : decode M.2.1 pc = .ok (.dup, 1)) (hv : v.category = 1) (kk : zB L xs l M gr d bc bs Q X (pc + 1) lo (v :: v :: st) S w) : zB L xs l M gr d bc bs Q X pc lo (v :: st) S w := by
  intro p e R s m args below meth c Z G ad A hC H locs ls cells slots hR hS hL hc hs
  exact lv_dup hC.1.1 hC.1.2.1 hd ((zcv_cat ad v).trans hv) (kk p e R s m args below meth c Z G ad A hC H locs ls cells slots hR hS hL hc hs)
theorem zB_callV {M' : zM} {idx d' bc' bs' bc2 bs2 n o ci N : Nat} {C : String} {T : u_T} {fs : List Nat} {As stk : List Value} {Q' : Option Value → zS → zW → Prop} {X' : String → zS → zW → Prop}
    (hd : decode M.2.1 pc = .ok (.invokevirtual idx, 3)) (hm : zMV M' C n) (hlk : zLk1 M.1.cls idx M') (hsp : zSp l M' gr d' bc' bs' (zR o :: As) S w Q' X') (hdd : d' < d) (hst : stk = As.reverse ++ zR o :: st) (hn : As.length = n) (hcat : (st.map fun v => v.category).sum ≤ 8)
    (ho : S[o]? = some (.inr (ci, fs))) (hcl : vwCl[ci]? = some (C, T, N)) (hb : bc = bc' + bc2 ∧ bs = bs' + bs2)
    (kk : ∀ v S' w', Q' v S' w' → zB L xs l M gr d bc2 bs2 Q X (pc + 3) lo (v.toList ++ st) S' w') (kx : ∀ E S' w', X' E S' w' → X E S' w' ∧ M.2.2.2.2 = []) : zB L xs l M gr d bc bs Q X pc lo stk S w := by
  intro p e R s m args below meth c Z G ad A hC H locs ls cells slots hR hS hL hc hs
  subst hst
  obtain ⟨h1, h2, h3, h4, h5, h6, ⟨n0, h7⟩, h8, h9, h10, h11, h12, h13, h14⟩ := id hC.1
  have hG := zgoodV hm hlk
  obtain ⟨-, g0, g2, g3⟩ := hm
  have hcd : zcode M' = Cond.code M'.1 M'.2.1 M'.2.2.1 M'.2.2.2.1 := by unfold zcode; rw [g0]
  have hsz : ls.size = M.2.2.1 := hL.1.1
  obtain ⟨hbc, hbs⟩ := hb
  have hrun := vx_runV (As := As.map (zcv ad)) (rest := st.map (zcv ad)) (b := ad o) (g := F0 m pc ls ((As.reverse ++ zR o :: st).map (zcv ad))) (H := H) (locs := locs) (cells := cells) (slots := slots) (R := R) (meth := meth) (below := below) (e := e) ⟨h1, h2, h3, h4, h5⟩ (hsp h6 G ad H.size)
    (cwV n h5 hG (by rw [hcd]) rfl rfl g3 ⟨by show d' + 6 + 1 ≤ R.frames; omega, by show 8 + (M'.2.2.1 + 11) + (60 * d' + 100) ≤ R.locals; omega⟩)
    ⟨zPre_blind _ _ _ _ _ _ _, va_recv hR.2.1 hR.1 hcl (zcs_get ho), fun U hU hW => ⟨rfl, zPre_of h7 hR hS h9 hU hW⟩⟩ rfl (by rw [List.length_map]; exact hn) hsz (by simp [zcv]) (by show 2 * 0 + _ ≤ 8; rw [zcv_sum]; omega) hd ⟨by show cells + bc' ≤ R.cells; omega, by show slots + bs' ≤ R.slots; omega⟩
  refine zbehind (w := w) hrun h7 hR hS (fun v S' w' H1 locs1 hq hR1 hS1 => ?_) (fun E S' w' H1 locs1 q ce hx hR1 hS1 hce hcv hcle => ?_)
  · have := kk v S' w' hq p e R s m args below meth c Z G ad A hC H1 locs1 ls (cells + bc') (slots + bs') hR1 hS1 hL (by omega) (by omega)
    rw [List.map_append] at this
    exact this
  · exact h12 E S' w' H1 locs1 ls (cells + bc') (slots + bs') pc _ q ce (kx E S' w' hx).1 hR1 hS1 (by omega) (by omega) hce hcv hcle (kx E S' w' hx).2
theorem zB_callS {M' : zM} {idx d' bc' bs' bc2 bs2 n : Nat} {As stk : List Value} {Q' : Option Value → zS → zW → Prop} {X' : String → zS → zW → Prop}
    (hd : decode M.2.1 pc = .ok (.invokestatic idx, 3)) (hm : zMS M' n) (hlk : zLk1 M.1.cls idx M') (hsp : zSp l M' gr d' bc' bs' As S w Q' X') (hdd : d' < d) (hst : stk = As.reverse ++ st) (hn : As.length = n) (hcat : (st.map fun v => v.category).sum ≤ 8)
    (hb : bc = bc' + bc2 ∧ bs = bs' + bs2)
    (kk : ∀ v S' w', Q' v S' w' → zB L xs l M gr d bc2 bs2 Q X (pc + 3) lo (v.toList ++ st) S' w') (kx : ∀ E S' w', X' E S' w' → X E S' w' ∧ M.2.2.2.2 = []) : zB L xs l M gr d bc bs Q X pc lo stk S w := by
  intro p e R s m args below meth c Z G ad A hC H locs ls cells slots hR hS hL hc hs
  subst hst
  obtain ⟨h1, h2, h3, h4, h5, h6, ⟨n0, h7⟩, h8, h9, h10, h11, h12, h13, h14⟩ := id hC.1
  have hG := zgoodS hm hlk
  obtain ⟨-, g2, g3⟩ := hm
  have hsz : ls.size = M.2.2.1 := hL.1.1
  obtain ⟨hbc, hbs⟩ := hb
  have hrun : vx_Run p l e R s m args below meth c H locs cells slots bc' bs' (F0 m pc ls ((As.reverse ++ st).map (zcv ad))) (st.map (zcv ad)) (zQ G ad gr Q' (zFA ad S.length H.size) (As.map (zcv ad)).toArray) (zX G ad gr X' (zFA ad S.length H.size)) (zFA ad S.length H.size) := by
    cases hh : M'.2.2.2.2 with
    | nil =>
      have hcd : zcode M' = Cond.code M'.1 M'.2.1 M'.2.2.1 M'.2.2.2.1 := by unfold zcode; rw [hh]
      exact vx_runS (As := As.map (zcv ad)) ⟨h1, h2, h3, h4, h5⟩ (hsp h6 G ad H.size)
        (va_cwS n h5 hG (by rw [hcd]) rfl rfl g3 ⟨by show d' + 6 + 1 ≤ R.frames; omega, by show 8 + (M'.2.2.1 + 11) + (60 * d' + 100) ≤ R.locals; omega⟩)
        ⟨zPre_blind _ _ _ _ _ _ _, fun U hU hW => ⟨rfl, zPre_of h7 hR hS h9 hU hW⟩⟩ rfl (by rw [List.length_map]; exact hn) hsz (by simp) (by show 2 * 0 + _ ≤ 8; rw [zcv_sum]; omega) hd ⟨by show cells + bc' ≤ R.cells; omega, by show slots + bs' ≤ R.slots; omega⟩
    | cons h0 t0 =>
      have hcd : zcode M' = Cond.codeWith M'.1 M'.2.1 M'.2.2.1 M'.2.2.2.1 (h0 :: t0) := by unfold zcode; rw [hh]
      exact vx_runSX (As := As.map (zcv ad)) (hh := h0 :: t0) ⟨h1, h2, h3, h4, h5⟩ (hsp h6 G ad H.size)
        (vx_cwSW n h5 hG (by rw [hcd]) rfl rfl g3 ⟨by show d' + 6 + 1 ≤ R.frames; omega, by show 8 + (M'.2.2.1 + 11) + (60 * d' + 100) ≤ R.locals; omega⟩)
        ⟨zPre_blind _ _ _ _ _ _ _, fun U hU hW => ⟨rfl, zPre_of h7 hR hS h9 hU hW⟩⟩ rfl (by rw [List.length_map]; exact hn) hsz (by simp) (by show 2 * 0 + _ ≤ 8; rw [zcv_sum]; omega) hd ⟨by show cells + bc' ≤ R.cells; omega, by show slots + bs' ≤ R.slots; omega⟩
  refine zbehind (w := w) hrun h7 hR hS (fun v S' w' H1 locs1 hq hR1 hS1 => ?_) (fun E S' w' H1 locs1 q ce hx hR1 hS1 hce hcv hcle => ?_)
  · have := kk v S' w' hq p e R s m args below meth c Z G ad A hC H1 locs1 ls (cells + bc') (slots + bs') hR1 hS1 hL (by omega) (by omega)
    rw [List.map_append] at this
    exact this
  · exact h12 E S' w' H1 locs1 ls (cells + bc') (slots + bs') pc _ q ce (kx E S' w' hx).1 hR1 hS1 (by omega) (by omega) hce hcv hcle (kx E S' w' hx).2
theorem zB_iret {a : Int} (hd : decode M.2.1 pc = .ok (.ireturn, 1)) (hr : M.2.2.2.1 = some .int) (hq : Q (some (zI a)) S w) : zB L xs l M gr d bc bs Q X pc lo [zI a] S w :=
  zB_ret (v := some (zI a)) ⟨hd, _, hr, rfl⟩ hq
theorem zB_zret {a : Int} (hd : decode M.2.1 pc = .ok (.ireturn, 1)) (hr : M.2.2.2.1 = some .boolean) (ha : a = 0 ∨ a = 1) (hq : Q (some (zI a)) S w) : zB L xs l M gr d bc bs Q X pc lo [zI a] S w :=
  zB_ret (v := some (zI a)) ⟨hd, _, hr, by rcases ha with rfl | rfl <;> rfl⟩ hq
theorem zB_drop {lo1 : List Value} (i : Nat) (h : lo.set i .null = lo1) (kk : zB L xs l M gr d bc bs Q X pc lo1 st S w) : zB L xs l M gr d bc bs Q X pc lo st S w := by
  subst h
  intro p e R s m args below meth c Z G ad A hC H locs ls cells slots hR hS hL hc hs
  refine kk p e R s m args below meth c Z G ad A hC H locs ls cells slots hR hS ⟨hL.1, fun k v hk hn => ?_⟩ hc hs
  by_cases hki : k = i
  · subst hki
    have hl : k < lo.length := by
      have := (List.getElem?_eq_some_iff.mp hk).1
      simpa using this
    rw [List.getElem?_set_self hl] at hk
    cases hk
    cases hn
  · rw [List.getElem?_set_ne (Ne.symm hki)] at hk
    exact hL.2 k v hk hn
theorem zB_nameI {a : Int} (kk : ∀ z, z = a → zB L xs l M gr d bc bs Q X pc lo (zI z :: st) S w) : zB L xs l M gr d bc bs Q X pc lo (zI a :: st) S w := kk a rfl
theorem zB_valI {a : Int} (b : Int) (h : a = b) (kk : zB L xs l M gr d bc bs Q X pc lo (zI b :: st) S w) : zB L xs l M gr d bc bs Q X pc lo (zI a :: st) S w := by subst h; exact kk
theorem zB_cV {M' : zM} {idx d' n o ci N : Nat} {C : String} {T : u_T} {fs : List Nat} {As stk : List Value} {Q' : Option Value → zS → zW → Prop}
    (hd : decode M.2.1 pc = .ok (.invokevirtual idx, 3)) (hm : zMV M' C n) (hlk : zLk1 M.1.cls idx M') (hsp : zSp l M' gr d' 0 0 (zR o :: As) S w Q' zNo) (hdd : d' < d) (ho : S[o]? = some (.inr (ci, fs))) (hst : stk = As.reverse ++ zR o :: st) (hn : As.length = n) (hcat : (st.map fun v => v.category).sum ≤ 8)
    (hcl : vwCl[ci]? = some (C, T, N)) (kk : ∀ v S' w', Q' v S' w' → zB L xs l M gr d bc bs Q X (pc + 3) lo (v.toList ++ st) S' w') : zB L xs l M gr d bc bs Q X pc lo stk S w :=
  zB_callV (bc2 := bc) (bs2 := bs) hd hm hlk hsp hdd hst hn hcat ho hcl ⟨(Nat.zero_add bc).symm, (Nat.zero_add bs).symm⟩ kk (fun _ _ _ h => h.elim)
theorem zB_cS {M' : zM} {idx d' n : Nat} {As stk : List Value} {Q' : Option Value → zS → zW → Prop}
    (hd : decode M.2.1 pc = .ok (.invokestatic idx, 3)) (hm : zMS M' n) (hlk : zLk1 M.1.cls idx M') (hsp : zSp l M' gr d' 0 0 As S w Q' zNo) (hdd : d' < d) (hst : stk = As.reverse ++ st) (hn : As.length = n) (hcat : (st.map fun v => v.category).sum ≤ 8)
    (kk : ∀ v S' w', Q' v S' w' → zB L xs l M gr d bc bs Q X (pc + 3) lo (v.toList ++ st) S' w') : zB L xs l M gr d bc bs Q X pc lo stk S w :=
  zB_callS (bc2 := bc) (bs2 := bs) hd hm hlk hsp hdd hst hn hcat ⟨(Nat.zero_add bc).symm, (Nat.zero_add bs).symm⟩ kk (fun _ _ _ h => h.elim)
theorem zB_namew (kk : ∀ w', w' = w → zB L xs l M gr d bc bs Q X pc lo st S w') : zB L xs l M gr d bc bs Q X pc lo st S w := kk w rfl
theorem zB_wk {bc1 bs1 : Nat} (h1 : bc1 ≤ bc) (h2 : bs1 ≤ bs) (kk : zB L xs l M gr d bc1 bs1 Q X pc lo st S w) : zB L xs l M gr d bc bs Q X pc lo st S w := by
  intro p e R s m args below meth c Z G ad A hC H locs ls cells slots hR hS hL hc hs
  exact kk p e R s m args below meth c Z G ad A hC H locs ls cells slots hR hS hL (by omega) (by omega)
/-- no constructor runs any more -/
theorem zB_gr (kk : zB L xs l M false d bc bs Q X pc lo st S w) : zB L xs l M true d bc bs Q X pc lo st S w := by
  intro p e R s m args below meth c Z G ad A hC H locs ls cells slots hR hS hL hc hs
  exact kk p e R s m args below meth c Z G ad A ⟨hC.2.2.2.2.2, hC.2⟩ H locs ls cells slots ⟨hR.1, hR.2.1, hR.2.2.1, hR.2.2.2.1, fun h => by cases h⟩ hS hL hc hs
theorem zB_slen (hd : decode M.2.1 pc = .ok (.arraylength, 1)) (hL0 : L < 2147483648) (kk : zB L xs l M gr d bc bs Q X (pc + 1) lo (zI (L : Int) :: st) S w) : zB L xs l M gr d bc bs Q X pc lo (zR 4000 :: st) S w := by
  intro p e R s m args below meth c Z G ad A hC H locs ls cells slots hR hS hL hc hs
  obtain ⟨-, h2, h3, h4, -⟩ := hC.2
  exact va_slen hC.1.1 hC.1.2.1 h2 h3 h4 hS hd (zW1 rfl (kk p e R s m args below meth c Z G ad A hC H locs ls cells slots hR hS hL hc hs))
theorem zB_sld {i : Int} (hd : decode M.2.1 pc = .ok (.iaload, 1)) (h0 : 0 ≤ i) (h1 : i < (L : Int)) (hL0 : L < 2147483648) (kk : zB L xs l M gr d bc bs Q X (pc + 1) lo (zI (xs i.toNat).toInt :: st) S w) : zB L xs l M gr d bc bs Q X pc lo (zI i :: zR 4000 :: st) S w := by
  intro p e R s m args below meth c Z G ad A hC H locs ls cells slots hR hS hL hc hs
  obtain ⟨-, h2, h3, h4, -⟩ := hC.2
  have hx := zix h0 h1 hL0
  refine va_sld hC.1.1 hC.1.2.1 h2 h3 h4 hS hx.1 hd (zW1 ?_ (kk p e R s m args below meth c Z G ad A hC H locs ls cells slots hR hS hL hc hs))
  rw [hx.2]
  exact (zof _).symm
end ZB
