/-! calls and returns as the walks use them -/
theorem inR_mk {z : Int} (h1 : -2147483648 ≤ z) (h2 : z < 2147483648) : inR z := ⟨h1, h2⟩
theorem inR_lo {z : Int} (h : inR z) : -2147483648 ≤ z := h.1
theorem inR_hi {z : Int} (h : inR z) : z < 2147483648 := h.2
def zRt (v : Option Value) (S : zS) (w : zW) : Option Value → zS → zW → Prop := fun v' S' w' => v' = v ∧ S' = S ∧ w' = w
/-- an answer with a property, the world as it was -/
def zRp1 (P : Int → Prop) (S : zS) (w : zW) : Option Value → zS → zW → Prop := fun v' S' w' => (∃ r, v' = some (zI r) ∧ P r) ∧ S' = S ∧ w' = w
section ZD
variable {l : Launch} {M : zM} {gr : Bool} {d bc bs : Nat} {Q : Option Value → zS → zW → Prop} {X : String → zS → zW → Prop} {pc : Nat} {lo : List Value} {S : zS} {w : zW}
theorem zA_iret {a : Int} (hd : decode M.2.1 pc = .ok (.ireturn, 1)) (hr : M.2.2.2.1 = some .int) (hq : Q (some (zI a)) S w) : zA l M gr d bc bs Q X pc lo [zI a] S w :=
  zA_ret (v := some (zI a)) ⟨hd, _, hr, rfl⟩ hq
theorem zA_zret {a : Int} (hd : decode M.2.1 pc = .ok (.ireturn, 1)) (hr : M.2.2.2.1 = some .boolean) (ha : a = 0 ∨ a = 1) (hq : Q (some (zI a)) S w) : zA l M gr d bc bs Q X pc lo [zI a] S w :=
  zA_ret (v := some (zI a)) ⟨hd, _, hr, by rcases ha with rfl | rfl <;> rfl⟩ hq
theorem zA_vret (hd : decode M.2.1 pc = .ok (.return_, 1)) (hr : M.2.2.2.1 = none) (hq : Q none S w) : zA l M gr d bc bs Q X pc lo [] S w :=
  zA_ret (v := none) ⟨hd, hr⟩ hq
theorem zA_namew {st : List Value} (kk : ∀ w', w' = w → zA l M gr d bc bs Q X pc lo st S w') : zA l M gr d bc bs Q X pc lo st S w := kk w rfl
theorem zA_nameI {st : List Value} {a : Int} (kk : ∀ z, z = a → zA l M gr d bc bs Q X pc lo (zI z :: st) S w) : zA l M gr d bc bs Q X pc lo (zI a :: st) S w := kk a rfl
theorem zA_valI {st : List Value} {a : Int} (b : Int) (h : a = b) (kk : zA l M gr d bc bs Q X pc lo (zI b :: st) S w) : zA l M gr d bc bs Q X pc lo (zI a :: st) S w := by subst h; exact kk
theorem zA_drop {st lo1 : List Value} (i : Nat) (h : lo.set i .null = lo1) (kk : zA l M gr d bc bs Q X pc lo1 st S w) : zA l M gr d bc bs Q X pc lo st S w := by
  subst h
  intro p e R s m args below meth c Z G ad A hC H locs ls cells slots hR hS hL hc hs
  refine kk p e R s m args below meth c Z G ad A hC H locs ls cells slots hR hS ⟨hL.1, fun k v hk hn => ?_⟩ hc hs
  by_cases hki : k = i
  · subst hki
    have hl : k < lo.length := by
      have := (List.getElem?_eq_some_iff.mp hk).1
      simpa using this
    rw [List.getElem?_set_self hl] at hk
    cases hk
    cases hn
  · rw [List.getElem?_set_ne (Ne.symm hki)] at hk
    exact hL.2 k v hk hn
/-- a callee that doesn't throw -/
theorem zA_cV {M' : zM} {idx d' n o ci N : Nat} {C : String} {T : u_T} {fs : List Nat} {As stk : List Value} {st : List Value} {Q' : Option Value → zS → zW → Prop}
    (hd : decode M.2.1 pc = .ok (.invokevirtual idx, 3)) (hm : zMV M' C n) (hlk : zLk1 M.1.cls idx M') (hsp : zSp l M' gr d' 0 0 (zR o :: As) S w Q' zNo) (hdd : d' < d) (ho : S[o]? = some (.inr (ci, fs))) (hst : stk = As.reverse ++ zR o :: st) (hn : As.length = n) (hcat : (st.map fun v => v.category).sum ≤ 8)
    (hcl : vwCl[ci]? = some (C, T, N)) (kk : ∀ v S' w', Q' v S' w' → zA l M gr d bc bs Q X (pc + 3) lo (v.toList ++ st) S' w') : zA l M gr d bc bs Q X pc lo stk S w :=
  zA_callV (bc2 := bc) (bs2 := bs) hd hm hlk hsp hdd hst hn hcat ho hcl ⟨(Nat.zero_add bc).symm, (Nat.zero_add bs).symm⟩ kk (fun _ _ _ h => h.elim)
theorem zA_cS {M' : zM} {idx d' n : Nat} {As stk : List Value} {st : List Value} {Q' : Option Value → zS → zW → Prop}
    (hd : decode M.2.1 pc = .ok (.invokestatic idx, 3)) (hm : zMS M' n) (hlk : zLk1 M.1.cls idx M') (hsp : zSp l M' gr d' 0 0 As S w Q' zNo) (hdd : d' < d) (hst : stk = As.reverse ++ st) (hn : As.length = n) (hcat : (st.map fun v => v.category).sum ≤ 8)
    (kk : ∀ v S' w', Q' v S' w' → zA l M gr d bc bs Q X (pc + 3) lo (v.toList ++ st) S' w') : zA l M gr d bc bs Q X pc lo stk S w :=
  zA_callS (bc2 := bc) (bs2 := bs) hd hm hlk hsp hdd hst hn hcat ⟨(Nat.zero_add bc).symm, (Nat.zero_add bs).symm⟩ kk (fun _ _ _ h => h.elim)
theorem zRt_el {v : Option Value} {S0 : zS} {w0 : zW} {st : List Value} (kk : zA l M gr d bc bs Q X pc lo (v.toList ++ st) S0 w0) : ∀ v' S' w', zRt v S0 w0 v' S' w' → zA l M gr d bc bs Q X pc lo (v'.toList ++ st) S' w' := by
  intro v' S' w' h
  obtain ⟨rfl, rfl, rfl⟩ := h
  exact kk
theorem zRp1_el {P : Int → Prop} {S0 : zS} {w0 : zW} {st : List Value} (kk : ∀ r, P r → zA l M gr d bc bs Q X pc lo (zI r :: st) S0 w0) : ∀ v' S' w', zRp1 P S0 w0 v' S' w' → zA l M gr d bc bs Q X pc lo (v'.toList ++ st) S' w' := by
  intro v' S' w' h
  obtain ⟨⟨r, rfl, h⟩, rfl, rfl⟩ := h
  exact kk r h
end ZD
