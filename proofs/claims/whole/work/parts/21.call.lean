/-! entry, return, calls -/
theorem zRp.moved {G : zG} {ad : Nat → Nat} {gr : Bool} {S : zS} {w : zW} {A B : Nat → Prop} {s t : State} {H H1 : Heap} (hvm : s.vm.Alike t.vm) (hH : H1 = H) (hAB : ∀ q, A q → B q) (h : zRp G ad gr S w A s H) : zRp G ad gr S w B t H1 := by
  subst hH
  exact ⟨h.1, va_K.moved hvm h.2.1, h.2.2.1.weaken (fun _ q _ hq => hAB q.1 hq), h.2.2.2.1, h.2.2.2.2⟩
theorem zRp.inA {G : zG} {ad : Nat → Nat} {gr : Bool} {S : zS} {w : zW} {A : Nat → Prop} {s : State} {H : Heap} (h : zRp G ad gr S w A s H) {i : Nat} (hi : i < S.length) : A (ad i) := by
  have h1 : (zcs G ad w S)[i]? = some (ad i, zent G ad w i S[i]) := zcs_get (List.getElem?_eq_getElem hi)
  exact h.2.2.1.2 i _ h1
theorem zRp.self {G : zG} {ad : Nat → Nat} {gr : Bool} {S : zS} {w : zW} {A : Nat → Prop} {s : State} {H : Heap} (h : zRp G ad gr S w A s H) (sz : Nat) : zRp G ad gr S w (zFA ad S.length sz) s H := by
  refine ⟨h.1, h.2.1, ⟨h.2.2.1.1, fun k q hk => ?_⟩, h.2.2.2.1, h.2.2.2.2⟩
  have hl : k < S.length := by
    have := (List.getElem?_eq_some_iff.mp hk).1
    simpa [zcs] using this
  have h1 : (zcs G ad w S)[k]? = some (ad k, zent G ad w k S[k]) := zcs_get (List.getElem?_eq_getElem hl)
  rw [h1] at hk
  cases hk
  exact Or.inl ⟨k, hl, rfl⟩
theorem zFA_sub {G : zG} {ad : Nat → Nat} {gr : Bool} {S : zS} {w : zW} {A : Nat → Prop} {s : State} {H H0 : Heap} {locs : List Loc} {n0 : Nat} (hA : A = zFA ad n0 H0.size) (h : zRp G ad gr S w A s H) (hS : va_S A H0 H locs) : ∀ q, zFA ad S.length H.size q → A q := by
  intro q hq
  rcases hq with ⟨i, hi, rfl⟩ | hq
  · exact h.inA hi
  · rw [hA]; exact Or.inr (Nat.le_trans hS.1 hq)
theorem zPre_blind (av : List Value) (G : zG) (ad : Nat → Nat) (gr : Bool) (S : zS) (w : zW) (sz : Nat) : FrameBlind (va_Pc av (zPre G ad gr S w sz)) := by
  intro a U g mk h
  obtain ⟨h1, h2, h3, h4⟩ := h
  exact ⟨h1, h2, zRp.moved (Vm.Alike.refl U.vm) rfl (fun _ h => h) h3, zSt.same (u := U) (U := U.calling g mk a) rfl h4⟩
theorem zPre_of {G : zG} {ad : Nat → Nat} {gr : Bool} {S : zS} {w : zW} {A : Nat → Prop} {s U : State} {H : Heap} {locs : List Loc} {n0 : Nat} (hA : A = zFA ad n0 s.heap.size) (h : zRp G ad gr S w A s H) (hS : va_S A s.heap H locs) (hst : zSt ad A s s.heap) (hU : U.heap = H) (hW : s.WarmedH U.vm) : zPre G ad gr S w H.size U := by
  refine ⟨by rw [hU], ?_, ?_⟩
  · exact zRp.moved hW.alike hU (fun _ h => h) (h.self H.size)
  · rw [hU]
    exact ((hst.kept hS.2.1).warm hW).narrow (zFA_sub hA h hS)
theorem zret_vx {p : Program} {l : Launch} {e : Env} {R : Room} {s : State} {m : MethodId} {args : Array Value} {below : List Frame} {meth : Method} {c : Code} {H : Heap} {locs : List Loc} {cells slots bc bs : Nat} {G : zG} {ad : Nat → Nat} {gr : Bool} {M : zM} {A : Nat → Prop} {Q : Option Value → zS → zW → Prop} {XC : String → State → State → Prop} {v : Option Value} {S : zS} {w : zW} {ls : Array Slot} {pc : Nat}
    (hx : p.tables.exec = Jvm.exec) (hb : c.code = M.2.1) (hr : meth.sig.returnType = M.2.2.2.1) (hlocks : meth.locks = false) (hQ : Q v S w) (hR : zRp G ad gr S w A s H) (hS : va_S A s.heap H locs) (hc : cells ≤ bc) (hs : slots ≤ bs) (hd : zRd M pc v) :
    W p l e R s m args below meth c H locs cells slots (vx_MQ below (zQ G ad gr Q A) XC args s bc bs A) (F0 m pc ls (v.toList.map (zcv ad))) := by
  refine W.widen hc hs (vx_ret ?_)
  have hq : ∀ (t : State), t.heap = H → s.WarmedH t.vm → zQ G ad gr Q A args s (.returned (v.map (zcv ad))) t := fun t ht hW =>
    ⟨⟨v, S, w, rfl, hQ, zRp.moved hW.alike ht (fun _ h => h) hR⟩, hS.F ht⟩
  cases v with
  | none => exact W.vret hx hb (hr.trans hd.2) hq hS.2.2 hd.1 hlocks
  | some v =>
    cases v with
    | int x =>
      obtain ⟨h1, ty, h2, h3⟩ := hd
      exact W.zret hx hb (hr.trans h2) h3 hq hS.2.2 h1 hlocks
    | _ => exact hd.elim
theorem zx_ofW {l : Launch} {y : MethodName} {ws ws' : List Cond} {rm : Room} {Pc : Array Value → State → Prop} {Qc : Array Value → State → Outcome → State → Prop} {XC : String → State → State → Prop} {mc ms : Nat} {free : Addr → Prop} {cc : ByteArray} {maxL : Nat} {ret : Option FieldType}
    (hy : plainFor y = true) (hw : ws = Cond.code y cc maxL ret :: ws')
    (body : ∀ p e s m args below meth c s₁, BodyLoose p l y (headSpec ws rm) cc maxL ret e s m args below meth c s₁ → c.maxLocals = maxL → (∀ x ∈ c.exceptionTable.toList, False) → Pc args s →
      W p l e (headSpec ws rm).room s m args below meth c s.heap [] 0 0 (vx_MQ below Qc XC args s mc ms free) (entryFrame m args maxL)) : vx_Met l y ws rm Pc Qc XC mc ms free := by
  refine MetFree.of_bodySF (code := cc) (maxLocals := maxL) (ret := ret) hy ?_ ?_
  · intro args s m h hn
    obtain ⟨meth, c, h1, h2, h3, h4, h5, h6, -, -⟩ := Cond.code_spec hn (atoms_spec (ws := ws) h _ (by rw [hw]; exact List.mem_cons_self))
    exact ⟨meth, c, h1, h2, h3, h4, h5, h6⟩
  · intro p e s m args below meth c s₁ B hml hP _
    have hh0 : s₁.heap = s.heap := by rw [B.state]; rfl
    have ht : ∀ x ∈ c.exceptionTable.toList, False := by
      obtain ⟨meth9, c9, h1, h2, -, -, -, -, h7, -⟩ := Cond.code_spec B.named (atoms_spec (ws := ws) B.pre _ (by rw [hw]; exact List.mem_cons_self))
      cases Option.some.inj (h1.symm.trans B.method)
      cases Option.some.inj (h2.symm.trans (Stand.of_body B).code)
      intro x hx
      rw [Array.isEmpty_iff.mp h7] at hx
      cases hx
    obtain ⟨t, a1, o, b1, b2, b3⟩ := body p e s m args below meth c s₁ B hml ht hP s₁ hh0 (Stand.of_body B)
    exact ⟨t, o, a1, b1, b2, b3⟩
theorem zA_intro {l : Launch} {M : zM} {gr : Bool} {d bc bs : Nat} {args : List Value} {S : zS} {w : zW} {Q : Option Value → zS → zW → Prop} {X : String → zS → zW → Prop} (hp : plainFor M.1 = true ∧ (plainName M.1.cls = true ∨ M.2.2.2.2 = [])) (hcat : args.all (fun v => v.category == 1) = true) (hn : args.length ≤ M.2.2.1) (k : zA l M gr d bc bs Q X 0 (args ++ List.replicate (M.2.2.1 - args.length) .null) [] S w) : zSp l M gr d bc bs args S w Q X := by
  intro hl G ad sz
  have hlen : ∀ (vs : List Value), vs.all (fun v => v.category == 1) = true → (lg_sl (vs.map (zcv ad))).length = vs.length ∧ ∀ (i j : Nat) (v : Value), vs[j]? = some v → (i + j, zcv ad v) ∈ lv_args i (vs.map (zcv ad)) := by
    intro vs
    induction vs with
    | nil => intro _; exact ⟨rfl, fun i j v h => by simp at h⟩
    | cons a t ih =>
      intro h
      simp only [List.all_cons, Bool.and_eq_true, beq_iff_eq] at h
      obtain ⟨h1, h2⟩ := ih h.2
      have hc : (zcv ad a).category = 1 := (zcv_cat ad a).trans h.1
      refine ⟨?_, fun i j v hj => ?_⟩
      · simp [lg_sl, hc] at h1 ⊢
        exact h1
      · simp only [List.map_cons, lv_args, hc]
        cases j with
        | zero => simp at hj; subst hj; exact List.mem_cons_self
        | succ j =>
          rw [List.getElem?_cons_succ] at hj
          have := h2 (i + 1) j v hj
          rw [show i + (j + 1) = i + 1 + j by omega]
          exact List.mem_cons_of_mem _ this
  have body : ∀ p e s m av below meth c s₁, BodyLoose p l M.1 (headSpec (zcode M :: zTB) (zrm d bc bs)) M.2.1 M.2.2.1 M.2.2.2.1 e s m av below meth c s₁ → c.maxLocals = M.2.2.1 → c.exceptionTable.toList = tableOf M.2.2.2.2 → va_Pc (args.map (zcv ad)) (zPre G ad gr S w sz) av s →
      W p l e (headSpec (zcode M :: zTB) (zrm d bc bs)).room s m av below meth c s.heap [] 0 0 (vx_MQ below (zQ G ad gr Q (zFA ad S.length sz)) (zX G ad gr X (zFA ad S.length sz)) av s bc bs (zFA ad S.length sz)) (entryFrame m av M.2.2.1) := by
    intro p e s m av below meth c s₁ B hml htab hv
    obtain ⟨rfl, hsz, hR, hSt⟩ := hv
    subst hsz
    have hx := B.exec
    have hb := B.bytes
    have hr := B.returns
    have hts := atoms_spec (ws := zcode M :: zTB) B.pre
    have hown : s.vm.findClass M.1.cls = some m.cls := findClass_of_methodNamed B.named
    have hlocks := B.notSynchronized
    obtain ⟨hl1, hl2⟩ := hlen args hcat
    have hle := lv_entry (args.map (zcv ad)) (n := M.2.2.1) (by rw [hl1]; exact hn)
    rw [lg_entry_eq]
    generalize (lg_sl (args.map (zcv ad)) ++ List.replicate (M.2.2.1 - (lg_sl (args.map (zcv ad))).length) Slot.unset).toArray = ls at hle ⊢
    have hLk : zLk ad ls M.2.2.1 (args ++ List.replicate (M.2.2.1 - args.length) .null) := by
      refine ⟨lv_sub hle [] rfl, fun k v hk hz => ?_⟩
      by_cases hka : k < args.length
      · rw [List.getElem?_append_left hka] at hk
        have := hl2 0 k v hk
        rw [Nat.zero_add] at this
        exact hle.2.2 _ this
      · rw [List.getElem?_append_right (by omega)] at hk
        have := List.eq_of_mem_replicate (List.mem_of_getElem? hk)
        subst this
        cases hz
    refine k p e _ s m _ below meth c _ G ad (zFA ad S.length s.heap.size) ⟨hx, hb, hml, hown, fun w hw => hts w (List.mem_cons_of_mem _ hw), hl, ⟨S.length, rfl⟩, ⟨Nat.le_refl _, Nat.le_refl _⟩, hSt, htab, ?_, ?_, ?_, (name_of_methodNamed B.named B.method).1⟩ s.heap [] ls 0 0 hR va_S.rf hLk (by rw [Nat.zero_add]; exact Nat.le_refl _) (by rw [Nat.zero_add]; exact Nat.le_refl _)
    · intro v S' w' H locs ls cells slots pc hQ hR' hS' hc hs hd
      exact zret_vx hx hb hr hlocks hQ hR' hS' hc hs hd
    · intro E S' w' H locs ls cells slots pc rest q ce hX hR' hS' hc hs hce hcv hcl hh
      refine vx_out (fun x hx => ?_) hlocks hce hcv hcl (fun t ht ha => ⟨⟨S', w', hX, zRp.moved ha ht (fun _ h => h) hR'⟩, hS'.F ht⟩) hS'.2.2 hc hs
      rw [htab, hh] at hx
      simp [tableOf] at hx
    · intro cls text wide ik is ic sa S' w' H locs ls cells slots pc rest hX hgr hR' hS' hsz hcat hc hs hh hth hstr
      obtain ⟨ix, rx, ⟨x0, x1, x2, x5⟩, hth⟩ := hth
      have hno : ∀ (k : Nat), ∀ x ∈ c.exceptionTable.toList, covers x k = false := fun k x hx => by
        rw [htab, hh] at hx
        simp [tableOf] at hx
      have hall : ∀ w ∈ Cond.classLink M.1.cls ik cls :: Cond.initialized cls :: zn_at M.1.cls ic cls ix rx ["java/lang/RuntimeException", "java/lang/Exception"], w ∈ zTB ∨ w ∈ zthx := hth.2.2.2.2
      have hbf : ∀ w, w ∈ zTB ∨ w ∈ zthx → w.before (args.map (zcv ad)).toArray s = true := fun w hw => hw.elim (fun hw => hts w (List.mem_cons_of_mem _ hw)) (fun hw => va_Nw.use (zthx_t hw) (hSt.2.2.2.2.2.2.2.2.2.2.2.1 w hw))
      have hxc : ∀ t : State, s.vm.Alike t.vm → H.size ≤ t.heap.size → (∀ q : Nat, q < H.size → t.heap[q]? = H[q]?) → zX G ad gr X (zFA ad S.length s.heap.size) cls s t := fun t ha hz hq =>
        ⟨⟨S', w', hX, ⟨hR'.1.kept (fun k x hx => hq x.1 (hR'.1 k x hx).lt), va_K.moved ha hR'.2.1, hR'.2.2.1, hR'.2.2.2.1, fun h => by rw [hgr] at h; cases h⟩⟩, ⟨Nat.le_trans hS'.1 hz, fun q h1 h2 => (hq q (Nat.lt_of_lt_of_le h1 hS'.1)).trans (hS'.2.1 q h1 h2)⟩⟩
      have hgood : ∀ w ∈ Cond.classLink M.1.cls ik cls :: Cond.initialized cls :: zn_at M.1.cls ic cls ix rx ["java/lang/RuntimeException", "java/lang/Exception"], vx_ot w = true := fun w hw => by
        unfold vx_ot
        rcases hall w hw with h | h
        · rw [zTB_good h, Bool.or_true]
        · rw [zthx_t h, Bool.true_or]
      have hnames : ∀ n ∈ ["java/lang/RuntimeException", "java/lang/Exception"], Bundle.fit n = true := by decide +kernel
      have hlen : ["java/lang/RuntimeException", "java/lang/Exception"].length = 2 := rfl
      obtain ⟨t0, t1, t2, t3, -⟩ := hth
      cases wide with
      | false =>
        obtain ⟨u1, u2, u3⟩ := t2
        exact zn_throwS hx hb hl x0 x1 x2 x5 hown t3 hnames (hbf _ (hall _ List.mem_cons_self)) (hbf _ (hall _ (List.mem_cons_of_mem _ List.mem_cons_self))) hstr (fun w hw => hbf _ (hall _ (List.mem_cons_of_mem _ (List.mem_cons_of_mem _ hw)))) hgood hSt.1 hSt.2.1 hS' hsz t0 t1 u1 u2 u3 (hno _) (by rw [hlen]; show 2 + 3 < d + 6; omega) (by rw [hlen]; show _ ≤ 60 * d + 100; omega) hc hs hlocks hxc hS'.2.2 hc hs
      | true =>
        obtain ⟨u1, u2, u3⟩ := t2
        exact zn_throwSW hx hb hl x0 x1 x2 x5 hown t3 hnames (hbf _ (hall _ List.mem_cons_self)) (hbf _ (hall _ (List.mem_cons_of_mem _ List.mem_cons_self))) hstr (fun w hw => hbf _ (hall _ (List.mem_cons_of_mem _ (List.mem_cons_of_mem _ hw)))) hgood hSt.1 hSt.2.1 hS' hsz t0 t1 u1 u2 u3 (hno _) (by rw [hlen]; show 2 + 3 < d + 6; omega) (by rw [hlen]; show _ ≤ 60 * d + 100; omega) hc hs hlocks hxc hS'.2.2 hc hs
  cases hh : M.2.2.2.2 with
  | nil =>
    refine zx_ofW (cc := M.2.1) (maxL := M.2.2.1) (ret := M.2.2.2.1) (ws' := zTB) hp.1 (by unfold zcode; rw [hh]) ?_
    intro p e s m av below meth c s₁ B hml ht hv
    exact body p e s m av below meth c s₁ B hml (by
      rw [hh]
      show c.exceptionTable.toList = []
      exact List.eq_nil_iff_forall_not_mem.mpr ht) hv
  | cons h0 t0 =>
    have hcw : zcode M = Cond.codeWith M.1 M.2.1 M.2.2.1 M.2.2.2.1 (h0 :: t0) := by unfold zcode; rw [hh]
    refine vx_ofWH (cc := M.2.1) (maxL := M.2.2.1) (ret := M.2.2.2.1) (hh := h0 :: t0) (ws' := zTB) (hp.2.elim id (fun e => by rw [hh] at e; cases e)) (by rw [hcw]) ?_
    intro p e s m av below meth c s₁ B hml hv
    refine body p e s m av below meth c s₁ B hml ?_ hv
    rw [hh]
    exact vx_table (x := M.1) B (by rw [← hcw]; exact atoms_spec (ws := zcode M :: zTB) B.pre _ List.mem_cons_self)
theorem zgoodV {own C : String} {idx n : Nat} {M : zM} (h : zMV M C n) (hl : zLk1 own idx M) : GoodIn zTB (wsV own idx C M.1 (zcode M :: zTB)) := by
  obtain ⟨⟨h1, h2, h3, h4⟩, -⟩ := h
  have hin : ∀ w ∈ wsV own idx C M.1 (zcode M :: zTB), w ∈ zTB := by
    intro w hw
    simp only [wsV, List.cons_append, List.nil_append, List.mem_cons] at hw
    rcases hw with rfl | rfl | rfl | rfl | rfl | hw
    · exact hl
    · exact h1
    · exact h2
    · exact h3
    · exact h4
    · exact hw
  exact fun w hm => ⟨hin w hm, good_of_word (zTB_good (hin w hm))⟩
theorem zgoodS {own : String} {idx n : Nat} {M : zM} (h : zMS M n) (hl : zLk1 own idx M) : GoodIn zTB (va_wsS own idx M.1 (zcode M :: zTB)) := by
  obtain ⟨⟨h1, h2, h3⟩, -⟩ := h
  have hin : ∀ w ∈ va_wsS own idx M.1 (zcode M :: zTB), w ∈ zTB := by
    intro w hw
    simp only [va_wsS, List.cons_append, List.nil_append, List.mem_cons] at hw
    rcases hw with rfl | rfl | rfl | rfl | hw
    · exact hl
    · exact h1
    · exact h2
    · exact h3
    · exact hw
  exact fun w hm => ⟨hin w hm, good_of_word (zTB_good (hin w hm))⟩
section ZC
variable {p : Program} {l : Launch} {e : Env} {R : Room} {s : State} {m : MethodId} {args : Array Value} {below : List Frame} {meth : Method} {c : Code} {H : Heap} {locs : List Loc} {cells slots : Nat} {Z : State → Prop} {G : zG} {ad : Nat → Nat} {gr : Bool} {A : Nat → Prop}
/-- behind a call -/
theorem zbehind {pc n0 bc' bs' : Nat} {ls : Array Slot} {st0 rest : List Value} {a : Array Value} {S : zS} {w : zW} {Q' : Option Value → zS → zW → Prop} {X' : String → zS → zW → Prop}
    (hr : vx_Run p l e R s m args below meth c H locs cells slots bc' bs' (F0 m pc ls st0) rest (zQ G ad gr Q' (zFA ad S.length H.size) a) (zX G ad gr X' (zFA ad S.length H.size)) (zFA ad S.length H.size))
    (hA : A = zFA ad n0 s.heap.size) (hR : zRp G ad gr S w A s H) (hS : va_S A s.heap H locs)
    (kk : ∀ (v : Option Value) (S' : zS) (w' : zW) (H1 : Heap) (locs1 : List Loc), Q' v S' w' → zRp G ad gr S' w' A s H1 → va_S A s.heap H1 locs1 → W p l e R s m args below meth c H1 locs1 (cells + bc') (slots + bs') Z (F0 m (pc + 3) ls (v.toList.map (zcv ad) ++ rest)))
    (kx : ∀ (E : String) (S' : zS) (w' : zW) (H1 : Heap) (locs1 : List Loc) (q : Addr) (ce : Cell), X' E S' w' → zRp G ad gr S' w' A s H1 → va_S A s.heap H1 locs1 → H1[q]? = some ce → ce.vm = .none → s.vm.findClass E = some ce.cls → vx_W p l e R s m args below meth c H1 locs1 (cells + bc') (slots + bs') Z (F0 m pc ls rest) q) :
    W p l e R s m args below meth c H locs cells slots Z (F0 m pc ls st0) := by
  have hsub := zFA_sub hA hR hS
  intro T hT X
  rcases hr T hT X with ⟨v0, st₀, t, T', L, h0, Y, hL, e1, e2, ⟨⟨v, S', w', hv, hq, hR'⟩, hF⟩, st⟩ | ⟨q, st₀, t, T', L, E, ce, h0, Y, hL, e1, e2, ⟨⟨S', w', hx, hR'⟩, hF⟩, hce, hcv, hcl, st⟩
  · cases hv
    obtain ⟨-, -, k3⟩ := vx_keep h0 e1 hS (fun q _ h => hsub q h) hsub hL hF
    have hal : s.vm.Alike t.vm := by rw [← e2]; exact Y.warmed.alike
    obtain ⟨t2, a1, b1⟩ := kk v S' w' T'.heap (locs ++ L) hq (zRp.moved hal.symm e1 hsub hR') k3 T' rfl Y
    refine ⟨t2, st t2 ?_, b1⟩
    cases v <;> exact a1
  · obtain ⟨-, -, k3⟩ := vx_keep h0 e1 hS (fun q _ h => hsub q h) hsub hL hF
    have hal : s.vm.Alike t.vm := by rw [← e2]; exact Y.warmed.alike
    obtain ⟨t2, a1, b1⟩ := kx E S' w' T'.heap (locs ++ L) q ce hx (zRp.moved hal.symm e1 hsub hR') k3 (by rw [e1]; exact hce) hcv hcl T' rfl Y
    exact ⟨t2, st.trans a1, b1⟩
end ZC
def zNo : String → zS → zW → Prop := fun _ _ _ => False
section ZD
variable {l : Launch} {M : zM} {gr : Bool} {d bc bs : Nat} {Q : Option Value → zS → zW → Prop} {X : String → zS → zW → Prop} {pc : Nat} {lo st : List Value} {S : zS} {w : zW}
theorem zA_callV {M' : zM} {idx d' bc' bs' bc2 bs2 n o ci N : Nat} {C : String} {T : u_T} {fs : List Nat} {As stk : List Value} {Q' : Option Value → zS → zW → Prop} {X' : String → zS → zW → Prop}
    (hd : decode M.2.1 pc = .ok (.invokevirtual idx, 3)) (hm : zMV M' C n) (hlk : zLk1 M.1.cls idx M') (hsp : zSp l M' gr d' bc' bs' (zR o :: As) S w Q' X') (hdd : d' < d) (hst : stk = As.reverse ++ zR o :: st) (hn : As.length = n) (hcat : (st.map fun v => v.category).sum ≤ 8)
    (ho : S[o]? = some (.inr (ci, fs))) (hcl : vwCl[ci]? = some (C, T, N)) (hb : bc = bc' + bc2 ∧ bs = bs' + bs2)
    (kk : ∀ v S' w', Q' v S' w' → zA l M gr d bc2 bs2 Q X (pc + 3) lo (v.toList ++ st) S' w') (kx : ∀ E S' w', X' E S' w' → X E S' w' ∧ M.2.2.2.2 = []) : zA l M gr d bc bs Q X pc lo stk S w := by
  intro p e R s m args below meth c Z G ad A hC H locs ls cells slots hR hS hL hc hs
  subst hst
  obtain ⟨h1, h2, h3, h4, h5, h6, ⟨n0, h7⟩, h8, h9, h10, h11, h12, h13, h14⟩ := id hC
  have hG := zgoodV hm hlk
  obtain ⟨-, g0, g2, g3⟩ := hm
  have hcd : zcode M' = Cond.code M'.1 M'.2.1 M'.2.2.1 M'.2.2.2.1 := by unfold zcode; rw [g0]
  have hsz : ls.size = M.2.2.1 := hL.1.1
  obtain ⟨hbc, hbs⟩ := hb
  have hrun := vx_runV (As := As.map (zcv ad)) (rest := st.map (zcv ad)) (b := ad o) (g := F0 m pc ls ((As.reverse ++ zR o :: st).map (zcv ad))) (H := H) (locs := locs) (cells := cells) (slots := slots) (R := R) (meth := meth) (below := below) (e := e) ⟨h1, h2, h3, h4, h5⟩ (hsp h6 G ad H.size)
    (cwV n h5 hG (by rw [hcd]) rfl rfl g3 ⟨by show d' + 6 + 1 ≤ R.frames; omega, by show 8 + (M'.2.2.1 + 11) + (60 * d' + 100) ≤ R.locals; omega⟩)
    ⟨zPre_blind _ _ _ _ _ _ _, va_recv hR.2.1 hR.1 hcl (zcs_get ho), fun U hU hW => ⟨rfl, zPre_of h7 hR hS h9 hU hW⟩⟩ rfl (by rw [List.length_map]; exact hn) hsz (by simp [zcv]) (by show 2 * 0 + _ ≤ 8; rw [zcv_sum]; omega) hd ⟨by show cells + bc' ≤ R.cells; omega, by show slots + bs' ≤ R.slots; omega⟩
  refine zbehind (w := w) hrun h7 hR hS (fun v S' w' H1 locs1 hq hR1 hS1 => ?_) (fun E S' w' H1 locs1 q ce hx hR1 hS1 hce hcv hcle => ?_)
  · have := kk v S' w' hq p e R s m args below meth c Z G ad A hC H1 locs1 ls (cells + bc') (slots + bs') hR1 hS1 hL (by omega) (by omega)
    rw [List.map_append] at this
    exact this
  · exact h12 E S' w' H1 locs1 ls (cells + bc') (slots + bs') pc _ q ce (kx E S' w' hx).1 hR1 hS1 (by omega) (by omega) hce hcv hcle (kx E S' w' hx).2
theorem zA_callS {M' : zM} {idx d' bc' bs' bc2 bs2 n : Nat} {As stk : List Value} {Q' : Option Value → zS → zW → Prop} {X' : String → zS → zW → Prop}
    (hd : decode M.2.1 pc = .ok (.invokestatic idx, 3)) (hm : zMS M' n) (hlk : zLk1 M.1.cls idx M') (hsp : zSp l M' gr d' bc' bs' As S w Q' X') (hdd : d' < d) (hst : stk = As.reverse ++ st) (hn : As.length = n) (hcat : (st.map fun v => v.category).sum ≤ 8)
    (hb : bc = bc' + bc2 ∧ bs = bs' + bs2)
    (kk : ∀ v S' w', Q' v S' w' → zA l M gr d bc2 bs2 Q X (pc + 3) lo (v.toList ++ st) S' w') (kx : ∀ E S' w', X' E S' w' → X E S' w' ∧ M.2.2.2.2 = []) : zA l M gr d bc bs Q X pc lo stk S w := by
  intro p e R s m args below meth c Z G ad A hC H locs ls cells slots hR hS hL hc hs
  subst hst
  obtain ⟨h1, h2, h3, h4, h5, h6, ⟨n0, h7⟩, h8, h9, h10, h11, h12, h13, h14⟩ := id hC
  have hG := zgoodS hm hlk
  obtain ⟨-, g2, g3⟩ := hm
  have hsz : ls.size = M.2.2.1 := hL.1.1
  obtain ⟨hbc, hbs⟩ := hb
  have hrun : vx_Run p l e R s m args below meth c H locs cells slots bc' bs' (F0 m pc ls ((As.reverse ++ st).map (zcv ad))) (st.map (zcv ad)) (zQ G ad gr Q' (zFA ad S.length H.size) (As.map (zcv ad)).toArray) (zX G ad gr X' (zFA ad S.length H.size)) (zFA ad S.length H.size) := by
    cases hh : M'.2.2.2.2 with
    | nil =>
      have hcd : zcode M' = Cond.code M'.1 M'.2.1 M'.2.2.1 M'.2.2.2.1 := by unfold zcode; rw [hh]
      exact vx_runS (As := As.map (zcv ad)) ⟨h1, h2, h3, h4, h5⟩ (hsp h6 G ad H.size)
        (va_cwS n h5 hG (by rw [hcd]) rfl rfl g3 ⟨by show d' + 6 + 1 ≤ R.frames; omega, by show 8 + (M'.2.2.1 + 11) + (60 * d' + 100) ≤ R.locals; omega⟩)
        ⟨zPre_blind _ _ _ _ _ _ _, fun U hU hW => ⟨rfl, zPre_of h7 hR hS h9 hU hW⟩⟩ rfl (by rw [List.length_map]; exact hn) hsz (by simp) (by show 2 * 0 + _ ≤ 8; rw [zcv_sum]; omega) hd ⟨by show cells + bc' ≤ R.cells; omega, by show slots + bs' ≤ R.slots; omega⟩
    | cons h0 t0 =>
      have hcd : zcode M' = Cond.codeWith M'.1 M'.2.1 M'.2.2.1 M'.2.2.2.1 (h0 :: t0) := by unfold zcode; rw [hh]
      exact vx_runSX (As := As.map (zcv ad)) (hh := h0 :: t0) ⟨h1, h2, h3, h4, h5⟩ (hsp h6 G ad H.size)
        (vx_cwSW n h5 hG (by rw [hcd]) rfl rfl g3 ⟨by show d' + 6 + 1 ≤ R.frames; omega, by show 8 + (M'.2.2.1 + 11) + (60 * d' + 100) ≤ R.locals; omega⟩)
        ⟨zPre_blind _ _ _ _ _ _ _, fun U hU hW => ⟨rfl, zPre_of h7 hR hS h9 hU hW⟩⟩ rfl (by rw [List.length_map]; exact hn) hsz (by simp) (by show 2 * 0 + _ ≤ 8; rw [zcv_sum]; omega) hd ⟨by show cells + bc' ≤ R.cells; omega, by show slots + bs' ≤ R.slots; omega⟩
  refine zbehind (w := w) hrun h7 hR hS (fun v S' w' H1 locs1 hq hR1 hS1 => ?_) (fun E S' w' H1 locs1 q ce hx hR1 hS1 hce hcv hcle => ?_)
  · have := kk v S' w' hq p e R s m args below meth c Z G ad A hC H1 locs1 ls (cells + bc') (slots + bs') hR1 hS1 hL (by omega) (by omega)
    rw [List.map_append] at this
    exact this
  · exact h12 E S' w' H1 locs1 ls (cells + bc') (slots + bs') pc _ q ce (kx E S' w' hx).1 hR1 hS1 (by omega) (by omega) hce hcv hcle (kx E S' w' hx).2
end ZD
