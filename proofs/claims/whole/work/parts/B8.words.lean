/-! the start's words -/
abbrev wsT : Jvm.Cond := Jvm.Cond.and given_1 narrow_1
def ws_i8 : List Nat := [51, 61, 66, 71, 76, 116, 121, 123, 125, 131, 133]
def ws_i12 : List Nat := [9, 11, 13, 15, 17, 264, 266, 268, 252, 273, 275]
def ws_i11 : List Nat := [109, 159, 179, 184, 186, 188, 190, 202, 224, 250, 271, 280, 286, 309, 318, 324, 329, 365, 397, 403, 419, 428, 444]
def ws_tm (i : Nat) : Term := .string RX8 (ws_i8.getD i 0)
def ws_v (i : Nat) : Term := .field (ws_tm i) "java/lang/String" "value" "[B"
set_option maxRecDepth 1000000
theorem ws_s1 : ∀ i, i < 11 → Cond.exactly (ws_tm i) "java/lang/String" ∈ flatC wsT := by decide +kernel
theorem ws_s2 : ∀ i, i < 11 → Cond.eq (.field (ws_tm i) "java/lang/String" "coder" "B") (.int 0) ∈ flatC wsT := by decide +kernel
theorem ws_s3 : ∀ i, i < 11 → Cond.arrayOf (ws_v i) .byte ∈ flatC wsT := by decide +kernel
theorem ws_s4 : ∀ i, i < 11 → Cond.eq (.length (ws_v i)) (.int (Int32.ofNat (zlenJ.getD i 0))) ∈ flatC wsT := by decide +kernel
theorem ws_s5 : ∀ i, i < 11 → ∀ j, j < zlenJ.getD i 0 → Cond.eq (.elem (ws_v i) (.int (Int32.ofNat j))) (.int ((zbytJ.getD i []).getD j 0)) ∈ flatC wsT := by decide +kernel
theorem ws_s6 : ∀ i, i < 11 → Cond.eq (ws_tm i) (.string RX12 (ws_i12.getD i 0)) ∈ flatC wsT := by decide +kernel
theorem ws_s7 : ∀ i, i < 23 → Cond.exactly (.string RX11 (ws_i11.getD i 0)) "java/lang/String" ∈ flatC wsT := by decide +kernel
theorem ws_s8 : ∀ q ∈ zrefs, Cond.stringRef q.1 q.2.1 q.2.2.1 ∈ lw_tbl := by decide +kernel
theorem ws_s9 : ∀ q ∈ zrefs, (∃ k, k < 23 ∧ q.1 = RX11 ∧ q.2.1 = ws_i11.getD k 0 ∧ q.2.2.2 = 1100 + k) ∨ (∃ k, k < 11 ∧ q.1 = RX8 ∧ q.2.1 = ws_i8.getD k 0 ∧ q.2.2.2 = 1000 + k) ∨ (∃ k, k < 11 ∧ q.1 = RX12 ∧ q.2.1 = ws_i12.getD k 0 ∧ q.2.2.2 = 1000 + k) := by decide +kernel
theorem ws_t1 : ∀ q ∈ zsta, Cond.arrayOf (.static q.1 q.2.1 "[I") .int ∈ flatC wsT := by decide +kernel
theorem ws_t2 : ∀ q ∈ zsta, Cond.eq (.length (.static q.1 q.2.1 "[I")) (.int (Int32.ofNat q.2.2.2.length)) ∈ flatC wsT := by decide +kernel
theorem ws_t3 : ∀ q ∈ zsta, ∀ j, j < q.2.2.2.length → Cond.eq (.elem (.static q.1 q.2.1 "[I") (.int (Int32.ofNat j))) (.int (Int32.ofInt (q.2.2.2.getD j 0))) ∈ flatC wsT := by decide +kernel
theorem ws_t4 : ∀ q ∈ zsta, Cond.laysStatic q.1 q.2.1 "[I" ∈ lw_tbl ∧ Cond.initialized q.1 ∈ lw_tbl := by decide +kernel
theorem ws_df : ∀ i, i < 11 → ∀ j, j < 11 → Int32.ofNat (zlenJ.getD i 0) = Int32.ofNat (zlenJ.getD j 0) → (∀ k, k < zlenJ.getD i 0 → k < zlenJ.getD j 0 → (zbytJ.getD i []).getD k 0 = (zbytJ.getD j []).getD k 0) → i = j := by decide +kernel
/-- words told apart by what they hold -/
theorem ws_S {args : Array Value} {s : State} {N : Nat} {tm : Nat → Term} {len : List Nat} {byt : List (List Int32)} {A : Nat → Prop} (hN : ∀ i : Nat, i < N → len.getD i 0 < 2 ^ 31) (hex : ∀ i : Nat, i < N → (Cond.exactly (tm i) "java/lang/String").before args s = true) (hco : ∀ i : Nat, i < N → (Cond.eq (.field (tm i) "java/lang/String" "coder" "B") (.int 0)).before args s = true)
    (har : ∀ i : Nat, i < N → (Cond.arrayOf (.field (tm i) "java/lang/String" "value" "[B") .byte).before args s = true) (hle : ∀ i : Nat, i < N → (Cond.eq (.length (.field (tm i) "java/lang/String" "value" "[B")) (.int (Int32.ofNat (len.getD i 0)))).before args s = true)
    (hel : ∀ i : Nat, i < N → ∀ j : Nat, j < len.getD i 0 → (Cond.eq (.elem (.field (tm i) "java/lang/String" "value" "[B") (.int (Int32.ofNat j))) (.int ((byt.getD i []).getD j 0))).before args s = true)
    (hdf : ∀ i : Nat, i < N → ∀ j : Nat, j < N → Int32.ofNat (len.getD i 0) = Int32.ofNat (len.getD j 0) → (∀ k, k < len.getD i 0 → k < len.getD j 0 → (byt.getD i []).getD k 0 = (byt.getD j []).getD k 0) → i = j) (hA : ∀ a : Nat, a < s.heap.size → ¬ A a) :
    ∃ adK adV : Nat → Nat, vk_S N len byt adK adV A s s.heap ∧ ∀ i : Nat, i < N → (tm i).eval args s none [] s = some (.ref (adK i)) := by
  have h0 : ∀ i : Nat, ∃ q : Nat × Nat, i < N → (tm i).eval args s none [] s = some (.ref q.1) ∧ va_O "java/lang/String" q.1 A s s.heap ∧ va_OF "java/lang/String" "coder" "B" (.int 0) q.1 A s s.heap ∧ va_OF "java/lang/String" "value" "[B" (.ref q.2) q.1 A s s.heap ∧ va_T .byte q.2 (len.getD i 0) (fun j => .int ((byt.getD i []).getD j 0)) A s s.heap := fun i => by
    by_cases hi : i < N
    · obtain ⟨a, c, cA, kA, q1, q2, q3, q4, q5, q6, -⟩ := Cond.exactly_spec (args := args) (first := s) (o := none) (s := s) (idx := []) (t := tm i) (cls := "java/lang/String") (hex i hi)
      obtain ⟨t, ht, hT⟩ := va_Tof (f := fun j => .int ((byt.getD i []).getD j 0)) (A := A) (hN i hi) (har i hi) (va_eqt (hle i hi)) (fun j hj => va_eqt (hel i hi j hj)) hA
      exact ⟨(a, t), fun _ => ⟨q1, ⟨cA, q3, q5, by rw [q6]; exact q2, hA a (Array.getElem?_eq_some_iff.mp q3).1⟩, vk_OFof q1 (va_eqt (hco i hi)) hA, vk_OFof q1 ht hA, hT⟩⟩
    · exact ⟨(0, 0), fun h => absurd h hi⟩
  obtain ⟨ad, had⟩ := Classical.axiomOfChoice h0
  refine ⟨fun i => (ad i).1, fun i => (ad i).2, ⟨fun i hi => (had i hi).2, fun i j hi hj e => ?_⟩, fun i hi => (had i hi).1⟩
  obtain ⟨-, -, ⟨cf, kf, fi, f, cl, p1, -, p3, -, p5, -⟩, ⟨va, p6, -, -, -, p7, p8, -⟩⟩ := (had i hi).2
  obtain ⟨-, -, ⟨cf', kf', fi', f', cl', r1, -, r3, -, r5, -⟩, ⟨vb, r6, -, -, -, r7, r8, -⟩⟩ := (had j hj).2
  have e : (ad i).1 = (ad j).1 := e
  rw [p1] at r1; cases r1
  rw [← e, p3] at r3; cases r3
  rw [p5] at r5
  have ev : (ad i).2 = (ad j).2 := by injection r5 with r5; injection r5
  rw [← ev, p6] at r6; cases r6
  refine hdf i hi j hj (p7.symm.trans r7) (fun k k0 k1 => ?_)
  have a := p8 k k0
  rw [r8 k k1] at a
  injection a with a; injection a with a; exact a.symm
/-- the law's end -/
theorem ws_fin {p : Program} {l : Launch} {e : Env} {s : State} {m : MethodId} {below : List Frame} {meth : Method} {c : Code} {b : Nat} (hx : p.tables.exec = Jvm.exec) (hb : c.code = code) (hr : meth.sig.returnType = ret) (hlocks : meth.locks = false) {ad : Nat → Nat} {A : Nat → Prop} (hA : ∀ a, A a → s.heap.size ≤ a) {v : Option Value} {S : zS} {w : zW} {H : Heap} {locs : List Loc} {ls : Array Slot} {cells slots pc : Nat} (hQ : QL v S w) (hS : va_S A s.heap H locs) (hc : cells ≤ room_1.cells) (hs : slots ≤ room_1.slots) (hrd : zRd mL_law pc v) : W p l e room_1 s m #[Value.ref b] below meth c H locs cells slots (lw_Z below #[Value.ref b] s) (F0 m pc ls (v.toList.map (zcv ad))) := by
  have e1 : v = some (zI 1) := hQ
  subst e1
  obtain ⟨hd, -⟩ := hrd
  refine va_forget (fun q hq => hA _ (hS.2.2 q hq)) ?_
  refine W.widen (k := 601024) (n := 7293034) (Nat.le_trans hc (Nat.le_of_ble_eq_true rfl)) (Nat.le_trans hs (Nat.le_of_ble_eq_true rfl)) ?_
  exact lw_ret hx hb hr hlocks hd
theorem ws_k3 : ∀ q ∈ zsta, ∃ k, k < 4 ∧ zsta[k]? = some q ∧ q.2.2.1 = 3000 + k ∧ q.2.2.2.length < 2 ^ 31 := by decide +kernel
theorem ws_x1 : ∀ q ∈ znF, Cond.fieldLinkNest q.1 q.2.1 q.2.2.1 q.2.2.2.1 q.2.2.2.2.1 q.2.2.2.2.2 ∈ lw_tbl := by decide +kernel
theorem ws_x2 : ∀ q ∈ znM, Cond.methodLinkNest q.1 q.2.1 q.2.2.1 q.2.2.2 ∈ lw_tbl := by decide +kernel
theorem ws_x3 : ∀ q ∈ zcas, Cond.castable q.1 q.2 ∈ lw_tbl := by decide +kernel
theorem ws_x4 : ∀ w ∈ zthx, w ∈ lw_tbl := by decide +kernel
theorem ws_x5 : Cond.arrayOver (.object "java/lang/String") ∈ lw_tbl := by decide +kernel
theorem ws_x6 : (Cond.laysStatic "java/lang/String" "COMPACT_STRINGS" "Z" ∈ lw_tbl ∧ Cond.initialized "java/lang/String" ∈ lw_tbl) ∧ Cond.eq (.static "java/lang/String" "COMPACT_STRINGS" "Z") (.int 1) ∈ flatC wsT := by decide +kernel
theorem ws_x7 : (Cond.laysStatic "jdk/internal/util/Preconditions" "SIOOBE_FORMATTER" "Ljava/util/function/BiFunction;" ∈ lw_tbl ∧ Cond.initialized "jdk/internal/util/Preconditions" ∈ lw_tbl) ∧ Cond.isRef (.static "jdk/internal/util/Preconditions" "SIOOBE_FORMATTER" "Ljava/util/function/BiFunction;") ∈ flatC wsT := by decide +kernel
theorem ws_x8 : Cond.not (.castable "java/lang/IllegalArgumentException" "java/util/NoSuchElementException") ∈ flatC wsT := by decide +kernel
theorem ws_x9 : (Cond.laysStatic Bundle.tN "UNASSIGNED_STACK" Bundle.steD ∈ lw_tbl ∧ Cond.initialized Bundle.tN ∈ lw_tbl) ∧ Cond.isRef (.static Bundle.tN "UNASSIGNED_STACK" Bundle.steD) ∈ flatC wsT := by decide +kernel
theorem ws_x10 : Cond.laysStatic Bundle.tN "SUPPRESSED_SENTINEL" Bundle.listD ∈ lw_tbl ∧ Cond.isRef (.static Bundle.tN "SUPPRESSED_SENTINEL" Bundle.listD) ∈ flatC wsT := by decide +kernel
set_option maxHeartbeats 4000000 in
theorem ws_zst {s : State} {b : Nat} (hts : ∀ w ∈ lw_tbl, w.before #[Value.ref b] s = true) (hgv : wsT.before #[Value.ref b] s = true) : ∃ ad : Nat → Nat, (∀ i, i < 1000 → ad i = s.heap.size + i) ∧ ad 4000 = b ∧ zSt ad (fun q => s.heap.size ≤ q) s s.heap := by
  have hF := flat_of_before wsT hgv
  have hA : ∀ a : Nat, a < s.heap.size → ¬ (fun q => s.heap.size ≤ q) a := fun a h => Nat.not_le.mpr h
  obtain ⟨adK, adV, hS, hK⟩ := ws_S (tm := ws_tm) (len := zlenJ) (byt := zbytJ) (N := 11) (by decide +kernel) (fun i hi => hF _ (ws_s1 i hi)) (fun i hi => hF _ (ws_s2 i hi)) (fun i hi => hF _ (ws_s3 i hi)) (fun i hi => hF _ (ws_s4 i hi)) (fun i hi j hj => hF _ (ws_s5 i hi j hj)) ws_df hA
  have h0 : ∀ k : Nat, ∃ a : Nat, k < 23 → (Term.string RX11 (ws_i11.getD k 0)).eval #[Value.ref b] s none [] s = some (.ref a) := fun k => by
    by_cases hk : k < 23
    · obtain ⟨a, c, cA, kA, q1, -⟩ := Cond.exactly_spec (hF _ (ws_s7 k hk))
      exact ⟨a, fun _ => q1⟩
    · exact ⟨0, fun h => absurd h hk⟩
  obtain ⟨aM, hM⟩ := Classical.axiomOfChoice h0
  have h1 : ∀ k : Nat, ∃ t : Nat, ∀ q, zsta[k]? = some q → (Term.static q.1 q.2.1 "[I").eval #[Value.ref b] s none [] s = some (.ref t) ∧ va_T .int t q.2.2.2.length (fun j => .int (Int32.ofInt (q.2.2.2.getD j 0))) (fun q => s.heap.size ≤ q) s s.heap := fun k => by
    cases hq : zsta[k]? with
    | none => exact ⟨0, fun q h => by cases h⟩
    | some q =>
      have hm := List.mem_of_getElem? hq
      obtain ⟨-, -, -, -, hN⟩ := ws_k3 q hm
      obtain ⟨t, ht, hT⟩ := va_Tof (f := fun j => .int (Int32.ofInt (q.2.2.2.getD j 0))) hN (hF _ (ws_t1 q hm)) (va_eqt (hF _ (ws_t2 q hm))) (fun j hj => va_eqt (hF _ (ws_t3 q hm j hj))) hA
      exact ⟨t, fun q' h => by cases h; exact ⟨ht, hT⟩⟩
  obtain ⟨aT, hT⟩ := Classical.axiomOfChoice h1
  obtain ⟨vf, hvf, hrf⟩ := Cond.isRef_spec (hF _ ws_x7.2)
  have hvf2 : ∃ aF : Nat, vf = .null ∨ vf = .ref aF := by
    cases vf <;> first | exact ⟨0, Or.inl rfl⟩ | exact ⟨_, Or.inr rfl⟩ | (simp at hrf; done) | (cases hrf; done)
  obtain ⟨aF, hvf2⟩ := hvf2
  have hZF := va_Zof (hts _ ws_x7.1.1) (hts _ ws_x7.1.2) hvf hA
  obtain ⟨ad, e0, e4, eT, eF, eV, eM, eK⟩ : ∃ ad : Nat → Nat, (∀ i, i < 1000 → ad i = s.heap.size + i) ∧ ad 4000 = b ∧ (∀ k, k < 4 → ad (3000 + k) = aT k) ∧ ad 2500 = aF ∧ (∀ k, k < 11 → ad (1500 + k) = adV k) ∧ (∀ k, k < 23 → ad (1100 + k) = aM k) ∧ (∀ k, k < 11 → ad (1000 + k) = adK k) := by
    refine ⟨fun n => if n < 1000 then s.heap.size + n else if 4000 ≤ n then b else if 3000 ≤ n then aT (n - 3000) else if 2500 ≤ n then aF else if 1500 ≤ n then adV (n - 1500) else if 1100 ≤ n then aM (n - 1100) else adK (n - 1000), fun i hi => if_pos hi, rfl, fun k hk => ?_, rfl, fun k hk => ?_, fun k hk => ?_, fun k hk => ?_⟩
    · dsimp only; rw [if_neg (by omega), if_neg (by omega), if_pos (by omega), show 3000 + k - 3000 = k by omega]
    · dsimp only; rw [if_neg (by omega), if_neg (by omega), if_neg (by omega), if_neg (by omega), if_pos (by omega), show 1500 + k - 1500 = k by omega]
    · dsimp only; rw [if_neg (by omega), if_neg (by omega), if_neg (by omega), if_neg (by omega), if_neg (by omega), if_pos (by omega), show 1100 + k - 1100 = k by omega]
    · dsimp only; rw [if_neg (by omega), if_neg (by omega), if_neg (by omega), if_neg (by omega), if_neg (by omega), if_neg (by omega), show 1000 + k - 1000 = k by omega]
  refine ⟨ad, e0, e4, vx_Zqof (hts _ ws_x9.1.1) (hts _ ws_x9.1.2) (hF _ ws_x9.2) hA, vx_Zqof (hts _ ws_x10.1) (hts _ ws_x9.1.2) (hF _ ws_x10.2) hA, fun q hq => ?_, ?_, fun q hq => ?_, fun q hq => va_Nw.of rfl (hts _ (ws_x1 q hq)), fun q hq => va_Nw.of rfl (hts _ (ws_x2 q hq)), va_Zof (hts _ ws_x6.1.1) (hts _ ws_x6.1.2) (va_eqt (hF _ ws_x6.2)) hA, ?_, va_AO.of (hts _ ws_x5), fun q hq => va_Nw.of rfl (hts _ (ws_x3 q hq)), fun w hw => va_Nw.of (zthx_t hw) (hts _ (ws_x4 w hw)), va_Nc.of (hF _ ws_x8)⟩
  · obtain ⟨k, k4, hk, e, -⟩ := ws_k3 q hq
    have ht := hT k q hk
    rw [e, eT k k4]
    exact ⟨va_Zof (hts _ (ws_t4 q hq).1) (hts _ (ws_t4 q hq).2) ht.1 hA, ht.2⟩
  · refine ⟨fun i hi => ?_, fun i j hi hj e => hS.2 i j hi hj (by rw [← eK i hi, ← eK j hj]; exact e)⟩
    have h := hS.1 i hi
    rw [← eK i hi, ← eV i hi] at h
    exact h
  · refine vk_R.of (hts _ (ws_s8 q hq)) ?_
    rcases ws_s9 q hq with ⟨k, h, e1, e2, e3⟩ | ⟨k, h, e1, e2, e3⟩ | ⟨k, h, e1, e2, e3⟩
    · rw [e1, e2, e3, eM k h]
      exact hM k h
    · rw [e1, e2, e3, eK k h]
      exact hK k h
    · rw [e1, e2, e3, eK k h]
      exact va_eqR (hF _ (ws_s6 k h)) (hK k h)
  · rcases hvf2 with e | e
    · subst e; exact Or.inl hZF
    · subst e; rw [eF]; exact Or.inr hZF
