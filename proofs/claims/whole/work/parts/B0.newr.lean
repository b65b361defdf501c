/-! what is made anew, while constructors run -/
theorem zMet_of {l : Launch} {y : MethodName} {ws : List Cond} {rm : Room} {Pc : Array Value → State → Prop} {Qc : Array Value → State → Outcome → State → Prop} {XC : String → State → State → Prop} {mc ms : Nat} {free : Addr → Prop} (h : vx_Met l y ws rm Pc Qc XC mc ms free) (hX : ∀ E st t, ¬ XC E st t) : Met l y ws rm Pc Qc mc ms free := by
  intro p e ha hc hk s m args below hf happ hP hK
  obtain ⟨n, o, h1, h2, h3, hQ⟩ := h p e ha hc hk s m args below hf happ hP hK
  refine ⟨n, o, h1, h2, h3, ?_⟩
  rcases hQ with hQ | ⟨q, -, E, ce, Ls, hE, -⟩
  · exact hQ
  · exact absurd hE (hX _ _ _)
def zMI (M : zM) (n : Nat) : Prop :=
  (Cond.instanceMethod M.1 ∈ zTB ∧ Cond.initialized M.1.cls ∈ zTB ∧ zcode M ∈ zTB) ∧ M.2.2.2.2 = [] ∧ M.2.2.2.1 = none ∧ M.1.name = "<init>" ∧ M.2.2.1 ≤ 40 ∧ M.1.cls ≠ "java/lang/invoke/MethodHandle" ∧ M.1.cls ≠ "java/lang/invoke/VarHandle" ∧ (parseMethodDescriptor M.1.desc).map (fun d => d.parameters.length) = some n
theorem zRp_push {G : zG} {ad : Nat → Nat} {S : zS} {w : zW} {A : Nat → Prop} {s : State} {H H1 : Heap} {x : zK} {e : va_E} (hR : zRp G ad true S w A s H) (hl : S.length + 1 < 1000) (he : e = zent G ad w S.length x) (hz : H1.size = H.size + 1) (ho : ∀ q : Nat, q < H.size → H1[q]? = H[q]?) (hat : va_at G.1 vwCl (H.size, e) H1) (hA : A H.size) : zRp G ad true (S ++ [x]) w A s H1 := by
  obtain ⟨hP, hK, hD, hr, hg⟩ := hR
  obtain ⟨hsz, had⟩ := hg rfl
  have e1 : zcs G ad w (S ++ [x]) = zcs G ad w S ++ [(H.size, e)] := by
    unfold zcs
    rw [List.mapIdx_append, hsz, he]
    simp [List.mapIdx_cons]
  have hk : ∀ (k : Nat) (y : Nat × va_E), (zcs G ad w S)[k]? = some y → H1[y.1]? = H[y.1]? := fun k y hy => ho y.1 ((hP k y hy).lt)
  refine ⟨?_, hK, ?_, hr, fun _ => ⟨?_, had⟩⟩
  · rw [e1]
    refine (hP.kept hk).app (fun k y hy => ?_)
    have hz1 : k < 1 := (List.getElem?_eq_some_iff.mp hy).1
    rw [show k = 0 by omega] at hy
    cases hy
    exact hat
  · rw [e1]
    exact hD.push hP rfl hA
  · rw [hz, hsz, List.length_append, List.length_singleton, had S.length (by omega), had (S.length + 1) (by omega)]
    omega
theorem va_S_push {A : Nat → Prop} {H0 H H1 : Heap} {locs : List Loc} (hS : va_S A H0 H locs) (hz : H1.size = H.size + 1) (ho : ∀ q : Nat, q < H.size → H1[q]? = H[q]?) : va_S A H0 H1 locs :=
  ⟨Nat.le_trans hS.1 (by omega), fun x h1 h2 => (ho x (Nat.lt_of_lt_of_le h1 hS.1)).trans (hS.2.1 x h1 h2), hS.2.2⟩
def zdb (t : FieldType) (f : Option Nat) : Bool := match t, f with
  | .int, some 0 => true
  | .boolean, some 0 => true
  | .array _, some 1 => true
  | .object _, some 1 => true
  | _, _ => false
theorem zdb_s {t : FieldType} {f : Option Nat} (h : zdb t f = true) : (defaultValue t = .int 0 ∧ f = some 0) ∨ (defaultValue t = .null ∧ f = some 1) := by
  unfold zdb at h
  split at h <;> first | exact Or.inl ⟨rfl, rfl⟩ | exact Or.inr ⟨rfl, rfl⟩ | cases h
section ZN
variable {l : Launch} {M : zM} {d bc bs : Nat} {Q : Option Value → zS → zW → Prop} {X : String → zS → zW → Prop} {pc : Nat} {lo st : List Value} {S : zS} {w : zW}
theorem zN_new {idx ci N bc2 bs2 : Nat} {C : String} {T : u_T} {fs : List Nat} {ty : Nat → FieldType} (hd : decode M.2.1 pc = .ok (.new idx, 3)) (hcl : vwCl[ci]? = some (C, T, N)) (hws : ∀ w ∈ u_ws C T N, w ∈ zTB) (hty : ∀ k, k < N → parseFieldDescriptor (T k).2.2.1 = some (ty k)) (hlk : Cond.classLink M.1.cls idx C ∈ zTB) (hinst : Cond.instantiable C N ∈ zTB) (hini : Cond.initialized C ∈ zTB)
    (hfs : (List.range N).all (fun j => zdb (ty j) fs[j]?) = true) (hfl : fs.length = N) (hw : ∀ x : Int, w S.length x = 0) (hb : bc = bc2 + 1 ∧ bs = bs2 + N) (hl : S.length + 1 < 1000) (kk : zA l M true d bc2 bs2 Q X (pc + 3) lo (zR S.length :: st) (S ++ [.inr (ci, fs)]) w) : zA l M true d bc bs Q X pc lo st S w := by
  intro p e R s m args below meth c Z G ad A hC H locs ls cells slots hR hS hL hc hs
  obtain ⟨h1, h2, h3, h4, h5, h6, ⟨n0, h7⟩, h8, h9, h10, h11, h12, h13, h14⟩ := id hC
  obtain ⟨hsz, had⟩ := hR.2.2.2.2 rfl
  have hKn := hR.2.1.1 ci _ hcl
  refine W.newcK h1 h2 h4 (h5 _ hlk) (h5 _ hinst) (h5 _ hini) rfl hd (by omega) (by omega) hKn.2.1 rfl (fun H1 kC hkC e1 z1 o1 => ?_)
  have hA : A H.size := by rw [h7]; exact Or.inr hS.1
  have hat : va_at G.1 vwCl (H.size, zent G ad w S.length (.inr (ci, fs))) H1 := by
    refine ⟨_, hcl, (u_born ty h5 hws hKn hkC e1 hty).to (fun j hj => ?_)⟩
    have hj2 := List.all_eq_true.mp hfs j (List.mem_range.mpr hj)
    show defaultValue (ty j) = vp_V (fs.mapIdx (fun k f => zcv ad (zfv w S.length k f))) j
    unfold vp_V
    rw [List.getD_eq_getElem?_getD, List.getElem?_mapIdx]
    rcases zdb_s hj2 with ⟨q1, q2⟩ | ⟨q1, q2⟩
    · rw [q1, q2]
      show Value.int 0 = Value.int (Int32.ofInt (w S.length (j : Int)))
      rw [hw]; rfl
    · rw [q1, q2]; rfl
  have hR' := zRp_push (x := .inr (ci, fs)) hR hl rfl z1 o1 hat hA
  have k := kk p e R s m args below meth c Z G ad A hC H1 locs ls (cells + 1) (slots + N) hR' (va_S_push hS z1 o1) hL (by omega) (by omega)
  rw [hsz]
  exact k
theorem zN_newa {atype : ArrayType} {t n bc2 bs2 : Nat} (hd : decode M.2.1 pc = .ok (.newarray atype, 2)) (ht : (atype = .int ∧ t = 0) ∨ (atype = .boolean ∧ t = 1) ∨ (atype = .long ∧ t = 2)) (harr : Cond.arrayClass (newarray.typeOf atype) ∈ zTB) (hn : n < 100000) (hw : ∀ x : Int, w S.length x = 0) (hb : bc = bc2 + 1 ∧ bs = bs2 + n) (hl : S.length + 1 < 1000) (kk : zA l M true d bc2 bs2 Q X (pc + 2) lo (zR S.length :: st) (S ++ [.inl (t, n)]) w) : zA l M true d bc bs Q X pc lo (zI (n : Int) :: st) S w := by
  intro p e R s m args below meth c Z G ad A hC H locs ls cells slots hR hS hL hc hs
  obtain ⟨h1, h2, h3, h4, h5, h6, ⟨n0, h7⟩, h8, h9, h10, h11, h12, h13, h14⟩ := id hC
  obtain ⟨hsz, had⟩ := hR.2.2.2.2 rfl
  have hni : (Int32.ofInt (n : Int)).toInt = (n : Int) := inR_n ⟨by omega, by omega⟩
  have hneg : ¬ Int32.ofInt (n : Int) < 0 := by
    have : ¬ (n : Int) < 0 := by omega
    exact fun q => this ((zlt ⟨by omega, by omega⟩ ⟨by decide, by decide⟩).mp (show Int32.ofInt (n : Int) < Int32.ofInt 0 from q))
  have hcl : (Int32.ofInt (n : Int)).toNatClampNeg = n := by
    show (Int32.ofInt (n : Int)).toInt.toNat = n
    rw [hni]; simp
  refine va_newaK h1 h2 (h5 _ harr) rfl hd rfl hneg hcl (by rcases ht with ⟨rfl, -⟩ | ⟨rfl, -⟩ | ⟨rfl, -⟩ <;> simp [newarray.typeOf, componentBytes] <;> omega) (by omega) (by omega) rfl (fun H1 cA e1 z1 o1 hAr hNm => ?_)
  have hA : A H.size := by rw [h7]; exact Or.inr hS.1
  have hat : va_at G.1 vwCl (H.size, zent G ad w S.length (.inl (t, n))) H1 := by
    rcases ht with ⟨rfl, rfl⟩ | ⟨rfl, rfl⟩ | ⟨rfl, rfl⟩
    · have hg : s.vm.findClass ("[" ++ (FieldType.int).toString) = some (G.2 0) := (hR.2.1.2 0 (G.2 0, .int) rfl).2
      have hcA : cA = G.2 0 := Option.some.inj (hNm.symm.trans hg)
      subst hcA
      show H1[H.size]? = some (arrV (G.2 0) n (fun j => .int (Int32.ofInt (w S.length (j : Int)))))
      rw [e1]
      congr 2
      funext j
      rw [hw]; rfl
    · have hg : s.vm.findClass ("[" ++ (FieldType.boolean).toString) = some (G.2 1) := (hR.2.1.2 1 (G.2 1, .boolean) rfl).2
      have hcA : cA = G.2 1 := Option.some.inj (hNm.symm.trans hg)
      subst hcA
      show H1[H.size]? = some (arrV (G.2 1) n (fun j => .int (Int32.ofInt (w S.length (j : Int)))))
      rw [e1]
      congr 2
      funext j
      rw [hw]; rfl
    · have hg : s.vm.findClass ("[" ++ (FieldType.long).toString) = some (G.2 2) := (hR.2.1.2 2 (G.2 2, .long) rfl).2
      have hcA : cA = G.2 2 := Option.some.inj (hNm.symm.trans hg)
      subst hcA
      show H1[H.size]? = some (arrV (G.2 2) n (fun j => .long (Int64.ofInt (w S.length (j : Int)))))
      rw [e1]
      congr 2
      funext j
      rw [hw]; rfl
  have hR' := zRp_push (x := .inl (t, n)) hR hl rfl z1 o1 hat hA
  have k := kk p e R s m args below meth c Z G ad A hC H1 locs ls (cells + 1) (slots + n) hR' (va_S_push hS z1 o1) hL (by omega) (by omega)
  rw [hsz]
  exact k
theorem zN_objInit {idx o : Nat} (hd : decode M.2.1 pc = .ok (.invokespecial idx, 3)) (hlk : Cond.methodLink M.1.cls idx Lib.objectInit ∈ zTB) (hi : Cond.instanceMethod Lib.objectInit ∈ zTB) (hcd : Cond.code Lib.objectInit ⟨#[0xb1]⟩ 1 none ∈ zTB) (hcat : (st.map fun v => v.category).sum ≤ 8) (kk : zA l M true d bc bs Q X (pc + 3) lo st S w) : zA l M true d bc bs Q X pc lo (zR o :: st) S w := by
  intro p e R s m args below meth c Z G ad A hC H locs ls cells slots hR hS hL hc hs
  obtain ⟨h1, h2, h3, h4, h5, h6, ⟨n0, h7⟩, h8, h9, h10, h11, h12, h13, h14⟩ := id hC
  refine W.objInit h1 h2 h4 (h5 _ hlk) (h5 _ hi) (h5 _ hcd) (g := F0 m pc ls ((zR o :: st).map (zcv ad))) rfl (hL.1.1.trans h3.symm) rfl hd (by omega) (by show 2 * 0 + ((st.map (zcv ad)).map fun v => v.category).sum + 12 ≤ R.locals; rw [zcv_sum]; omega) ?_
  exact kk p e R s m args below meth c Z G ad A hC H locs ls cells slots hR hS hL hc hs
theorem zN_callI {gr : Bool} {M' : zM} {idx d' bc' bs' bc2 bs2 n o : Nat} {As stk : List Value} {Q' : Option Value → zS → zW → Prop} (hd : decode M.2.1 pc = .ok (.invokespecial idx, 3)) (hm : zMI M' n) (hlk : zLk1 M.1.cls idx M') (hsp : zSp l M' gr d' bc' bs' (zR o :: As) S w Q' zNo) (hdd : d' < d) (hst : stk = As.reverse ++ zR o :: st) (hn : As.length = n) (hcat : (st.map fun v => v.category).sum ≤ 8) (hb : bc = bc' + bc2 ∧ bs = bs' + bs2)
    (kk : ∀ v S' w', Q' v S' w' → zA l M gr d bc2 bs2 Q X (pc + 3) lo (v.toList ++ st) S' w') : zA l M gr d bc bs Q X pc lo stk S w := by
  intro p e R s m args below meth c Z G ad A hC H locs ls cells slots hR hS hL hc hs
  subst hst
  obtain ⟨h1, h2, h3, h4, h5, h6, ⟨n0, h7⟩, h8, h9, h10, h11, h12, h13, h14⟩ := id hC
  obtain ⟨⟨g1, g2, g3⟩, g0, gr0, gn, gm, gd⟩ := hm
  have hsz : ls.size = M.2.2.1 := hL.1.1
  obtain ⟨hbc, hbs⟩ := hb
  have hcd : zcode M' = Cond.code M'.1 M'.2.1 M'.2.2.1 none := by unfold zcode; rw [g0, gr0]
  have hG : GoodIn zTB (zcode M' :: zTB) := fun w hm => by
    have : w ∈ zTB := by
      rcases List.mem_cons.mp hm with rfl | hm
      · exact g3
      · exact hm
    exact ⟨this, good_of_word (zTB_good this)⟩
  have hrun := va_runI (b := ad o) (As := As.map (zcv ad)) (rest := st.map (zcv ad)) (g := F0 m pc ls ((As.reverse ++ zR o :: st).map (zcv ad))) (H := H) (locs := locs) (cells := cells) (slots := slots) (R := R) (meth := meth) (below := below) (e := e) ⟨h1, h2, h3, h4, h5⟩ (zMet_of (hsp h6 G ad H.size) (fun E st t hx => by obtain ⟨⟨S', w', hx, -⟩, -⟩ := hx; exact hx))
    (cwI n h5 hG (by rw [hcd]) rfl rfl (h5 _ g2) (h5 _ hlk) (h5 _ g1) gn gd ⟨by show d' + 6 + 1 ≤ R.frames; omega, by show 8 + (M'.2.2.1 + 11) + (60 * d' + 100) ≤ R.locals; omega⟩)
    ⟨zPre_blind _ _ _ _ _ _ _, fun U hU hW => ⟨rfl, zPre_of h7 hR hS h9 hU hW⟩⟩ rfl (by rw [List.length_map]; exact hn) hsz (by simp [zcv]) (by show 2 * 0 + _ ≤ 8; rw [zcv_sum]; omega) hd ⟨by show cells + bc' ≤ R.cells; omega, by show slots + bs' ≤ R.slots; omega⟩
  have hsub := zFA_sub h7 hR hS
  intro T hT X
  obtain ⟨v0, st₀, t, T', Ls, h0, Y, hL', e1, e2, ⟨⟨v, S', w', hv, hq, hR'⟩, hF⟩, stp⟩ := hrun T hT X
  cases hv
  obtain ⟨-, -, k3⟩ := vx_keep h0 e1 hS (fun q _ h => hsub q h) hsub hL' hF
  have hal : s.vm.Alike t.vm := by rw [← e2]; exact Y.warmed.alike
  have := kk v S' w' hq p e R s m args below meth c Z G ad A hC T'.heap (locs ++ Ls) ls (cells + bc') (slots + bs') (zRp.moved hal.symm e1 hsub hR') k3 hL (by omega) (by omega)
  obtain ⟨t2, a1, b1⟩ := this T' rfl Y
  refine ⟨t2, stp t2 ?_, b1⟩
  rw [List.map_append] at a1
  cases v <;> exact a1
end ZN
