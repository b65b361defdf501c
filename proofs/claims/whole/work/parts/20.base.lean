/-! THE GROUND: a judgement zA over a machine whose numbers are whole numbers, whose cells are named by places, and whose room is told by depth. -/
abbrev zW : Type := Nat → Int → Int
abbrev zK : Type := (Nat × Nat) ⊕ (Nat × List Nat)
abbrev zS : Type := List zK
abbrev zG : Type := va_G × (Nat → ClassId)
abbrev zI (z : Int) : Value := .int (Int32.ofInt z)
abbrev zL (z : Int) : Value := .long (Int64.ofInt z)
abbrev zR (i : Nat) : Value := .ref i
def inR (z : Int) : Prop := -2147483648 ≤ z ∧ z < 2147483648
def zcv (ad : Nat → Nat) (v : Value) : Value := match v with
  | .ref i => .ref (ad i)
  | .int x => .int x
  | .long x => .long x
  | .float x => .float x
  | .double x => .double x
  | .null => .null
  | .retAddr x => .retAddr x
theorem zcv_cat (ad : Nat → Nat) (v : Value) : (zcv ad v).category = v.category := by cases v <;> rfl
theorem zcv_sum (ad : Nat → Nat) (st : List Value) : ((st.map (zcv ad)).map fun v => v.category).sum = (st.map fun v => v.category).sum := by
  rw [List.map_map]
  congr 1
  apply List.map_congr_left
  intro v _
  exact zcv_cat ad v
/-- what a field holds: 0 a number, 1 null, n + 2 the cell n -/
def zfv (w : zW) (c k f : Nat) : Value := match f with
  | 0 => zI (w c (k : Int))
  | 1 => .null
  | n + 2 => zR n
def zent (G : zG) (ad : Nat → Nat) (w : zW) (i : Nat) (k : zK) : va_E := match k with
  | .inl (0, n) => .inl (G.2 0, n, .inl (fun j => Int32.ofInt (w i (j : Int))))
  | .inl (1, n) => .inl (G.2 1, n, .inl (fun j => Int32.ofInt (w i (j : Int))))
  | .inl (2, n) => .inl (G.2 2, n, .inr (.inl (fun j => Int64.ofInt (w i (j : Int)))))
  | .inl (_, n) => .inl (G.2 3, n, .inr (.inr (.inr (.inr (fun j => if w i (j : Int) < 0 then none else some (ad (w i (j : Int)).toNat))))))
  | .inr (c, fs) => .inr (c, fs.mapIdx (fun k f => zcv ad (zfv w i k f)))
def zcs (G : zG) (ad : Nat → Nat) (w : zW) (S : zS) : va_W := S.mapIdx (fun i k => (ad i, zent G ad w i k))
def ztys (G : zG) : List (ClassId × FieldType) := [(G.2 0, .int), (G.2 1, .boolean), (G.2 2, .long), (G.2 3, .object "java/lang/String")]
theorem zcs_get {G : zG} {ad : Nat → Nat} {w : zW} {S : zS} {i : Nat} {k : zK} (h : S[i]? = some k) : (zcs G ad w S)[i]? = some (ad i, zent G ad w i k) := by
  unfold zcs
  rw [List.getElem?_mapIdx, h]
  rfl
def up (w : zW) (c : Nat) (i v : Int) : zW := fun c' i' => if c' = c ∧ i' = i then v else w c' i'
theorem up_same (w : zW) (c : Nat) (i v : Int) : up w c i v c i = v := by simp [up]
theorem up_cell (w : zW) {c c' : Nat} (i i' v : Int) (h : c' ≠ c) : up w c i v c' i' = w c' i' := by simp [up, h]
theorem up_idx (w : zW) (c c' : Nat) {i i' : Int} (v : Int) (h : i' ≠ i) : up w c i v c' i' = w c' i' := by simp [up, h]
def zRp (G : zG) (ad : Nat → Nat) (gr : Bool) (S : zS) (w : zW) (A : Nat → Prop) (s : State) (H : Heap) : Prop :=
  va_P G.1 vwCl (zcs G ad w S) H ∧ va_K G.1 vwCl (ztys G) s ∧ va_D A (zcs G ad w S) ∧ (∀ c i, inR (w c i)) ∧ (gr = true → H.size = ad S.length ∧ ∀ i, i < 1000 → ad i = ad 0 + i)
def zFA (ad : Nat → Nat) (n0 sz : Nat) : Nat → Prop := fun q => (∃ i, i < n0 ∧ q = ad i) ∨ sz ≤ q
/-- the static arrays: class, name, place, values -/
def zsta : List (String × String × Nat × List Int) := [(RX1, "X", 3000, [100, 92, 71, 38, 0, -38, -71, -92, -100, -92, -71, -38, 0, 38, 71, 92]), (RX1, "Y", 3001, [0, 38, 71, 92, 100, 92, 71, 38, 0, -38, -71, -92, -100, -92, -71, -38]), (RX12, "EAST", 3002, [100, 92, 71, 38]), (RX12, "NORTH", 3003, [0, 38, 71, 92])]
def zrefs : List (String × Nat × String × Nat) := [(RX11, 109, "the tape has not so many bytes", 1100), (RX11, 159, "nothing so counted", 1101), (RX11, 179, "the day is below 0", 1102), (RX11, 184, "no such chimney", 1103), (RX11, 186, "no such letter", 1104), (RX11, 188, "no such what", 1105), (RX11, 190, "no such owner", 1106), (RX11, 202, "nothing so planned", 1107), (RX11, 224, "no such letter on a gang", 1108), (RX11, 250, "there is no lean of that year", 1109), (RX11, 271, "no such question", 1110), (RX11, 280, "nothing is tried", 1111), (RX11, 286, "nothing is left to ask", 1112), (RX11, 309, "no such cut", 1113), (RX11, 318, "no such bricks", 1114), (RX11, 324, "no such centre", 1115), (RX11, 329, "no such rope", 1116), (RX11, 365, "no such day", 1117), (RX11, 397, "no such pull", 1118), (RX11, 403, "no such year or wind", 1119), (RX11, 419, "nothing so ordered", 1120), (RX11, 428, "no such ladders", 1121), (RX11, 444, "no such bill", 1122), (RX8, 51, "chimney", 1000), (RX8, 61, "winds", 1001), (RX8, 66, "letter", 1002), (RX8, 71, "road", 1003), (RX8, 76, "nest", 1004), (RX8, 116, "days", 1005), (RX8, 121, "wind", 1006), (RX8, 123, "from", 1007), (RX8, 125, "till", 1008), (RX8, 131, "price", 1009), (RX8, 133, "moves", 1010), (RX12, 9, "chimney", 1000), (RX12, 11, "winds", 1001), (RX12, 13, "letter", 1002), (RX12, 15, "road", 1003), (RX12, 17, "nest", 1004), (RX12, 252, "till", 1008), (RX12, 264, "days", 1005), (RX12, 266, "wind", 1006), (RX12, 268, "from", 1007), (RX12, 273, "price", 1009), (RX12, 275, "moves", 1010)]
def znJ : Nat := 11
def zlenJ : List Nat := [7, 5, 6, 4, 4, 4, 4, 4, 4, 5, 5]
def zbytJ : List (List Int32) := [[99, 104, 105, 109, 110, 101, 121], [119, 105, 110, 100, 115], [108, 101, 116, 116, 101, 114], [114, 111, 97, 100], [110, 101, 115, 116], [100, 97, 121, 115], [119, 105, 110, 100], [102, 114, 111, 109], [116, 105, 108, 108], [112, 114, 105, 99, 101], [109, 111, 118, 101, 115]]
def zcas : List (String × String) := [("java/lang/IllegalArgumentException", "java/lang/IllegalArgumentException"), ("java/util/NoSuchElementException", "java/util/NoSuchElementException")]
/-- what stands still: the words that no table holds -/
def zSx (ad : Nat → Nat) (A : Nat → Prop) (U : State) (H : Heap) : Prop :=
  (∀ q ∈ znF, va_Nw (.fieldLinkNest q.1 q.2.1 q.2.2.1 q.2.2.2.1 q.2.2.2.2.1 q.2.2.2.2.2) U) ∧ (∀ q ∈ znM, va_Nw (.methodLinkNest q.1 q.2.1 q.2.2.1 q.2.2.2) U) ∧
  va_Z "java/lang/String" "COMPACT_STRINGS" "Z" (.int 1) A U H ∧ (va_Z "jdk/internal/util/Preconditions" "SIOOBE_FORMATTER" "Ljava/util/function/BiFunction;" .null A U H ∨ va_Z "jdk/internal/util/Preconditions" "SIOOBE_FORMATTER" "Ljava/util/function/BiFunction;" (.ref (ad 2500)) A U H) ∧
  va_AO "java/lang/String" U ∧ (∀ q ∈ zcas, va_Nw (.castable q.1 q.2) U) ∧ (∀ w ∈ zthx, va_Nw w U) ∧ va_Nc "java/lang/IllegalArgumentException" "java/util/NoSuchElementException" U
theorem zSx.kept {ad : Nat → Nat} {A : Nat → Prop} {U : State} {H H1 : Heap} (h : zSx ad A U H) (hq : ∀ a : Nat, a < H.size → ¬ A a → H1[a]? = H[a]?) : zSx ad A U H1 :=
  ⟨h.1, h.2.1, h.2.2.1.kept hq, h.2.2.2.1.imp (fun h => h.kept hq) (fun h => h.kept hq), h.2.2.2.2⟩
theorem zSx.warm {ad : Nat → Nat} {A : Nat → Prop} {s U : State} {H : Heap} (hW : s.WarmedH U.vm) (h : zSx ad A s H) : zSx ad A U H :=
  ⟨fun q hm => (h.1 q hm).warmF hW, fun q hm => (h.2.1 q hm).warmM hW, h.2.2.1.moved hW.alike, h.2.2.2.1.imp (fun h => h.moved hW.alike) (fun h => h.moved hW.alike), h.2.2.2.2.1.moved hW.alike, fun q hm => (h.2.2.2.2.2.1 q hm).warmC hW, fun w hm => zthx_warm hm hW (h.2.2.2.2.2.2.1 w hm), h.2.2.2.2.2.2.2.moved hW.alike⟩
theorem zSx.same {ad : Nat → Nat} {A : Nat → Prop} {u U : State} {H : Heap} (hv : U.vm = u.vm) (h : zSx ad A u H) : zSx ad A U H :=
  have ha : u.vm.Alike U.vm := by rw [hv]; exact Vm.Alike.refl _
  ⟨fun q hm => va_Nw.same rfl hv.symm (h.1 q hm), fun q hm => va_Nw.same rfl hv.symm (h.2.1 q hm), h.2.2.1.moved ha, h.2.2.2.1.imp (fun h => h.moved ha) (fun h => h.moved ha), h.2.2.2.2.1.moved ha, fun q hm => va_Nw.same rfl hv.symm (h.2.2.2.2.2.1 q hm), fun w hm => va_Nw.same (zthx_t hm) hv.symm (h.2.2.2.2.2.2.1 w hm), h.2.2.2.2.2.2.2.moved ha⟩
theorem zSx.narrow {ad : Nat → Nat} {A B : Nat → Prop} {U : State} {H : Heap} (h : zSx ad A U H) (hAB : ∀ q, B q → A q) : zSx ad B U H :=
  ⟨h.1, h.2.1, h.2.2.1.narrow hAB, h.2.2.2.1.imp (fun h => h.narrow hAB) (fun h => h.narrow hAB), h.2.2.2.2⟩
def zSt (ad : Nat → Nat) (A : Nat → Prop) (U : State) (H : Heap) : Prop :=
  vx_Zq Bundle.tN "UNASSIGNED_STACK" Bundle.steD A U H ∧ vx_Zq Bundle.tN "SUPPRESSED_SENTINEL" Bundle.listD A U H ∧
  (∀ q ∈ zsta, va_Z q.1 q.2.1 "[I" (.ref (ad q.2.2.1)) A U H ∧ va_T .int (ad q.2.2.1) q.2.2.2.length (fun j => .int (Int32.ofInt (q.2.2.2.getD j 0))) A U H) ∧
  vk_S znJ zlenJ zbytJ (fun k => ad (1000 + k)) (fun k => ad (1500 + k)) A U H ∧ (∀ q ∈ zrefs, vk_R q.1 q.2.1 q.2.2.1 (ad q.2.2.2) U) ∧ zSx ad A U H
theorem zSt.kept {ad : Nat → Nat} {A : Nat → Prop} {U : State} {H H1 : Heap} (h : zSt ad A U H) (hq : ∀ a : Nat, a < H.size → ¬ A a → H1[a]? = H[a]?) : zSt ad A U H1 :=
  ⟨h.1.kept hq, h.2.1.kept hq, fun q hm => ⟨(h.2.2.1 q hm).1.kept hq, (h.2.2.1 q hm).2.kept hq⟩, h.2.2.2.1.kept hq, h.2.2.2.2.1, h.2.2.2.2.2.kept hq⟩
theorem zSt.warm {ad : Nat → Nat} {A : Nat → Prop} {s U : State} {H : Heap} (hW : s.WarmedH U.vm) (h : zSt ad A s H) : zSt ad A U H :=
  ⟨h.1.moved hW.alike, h.2.1.moved hW.alike, fun q hm => ⟨(h.2.2.1 q hm).1.moved hW.alike, (h.2.2.1 q hm).2.moved hW.alike⟩, h.2.2.2.1.moved hW.alike, fun q hm => (h.2.2.2.2.1 q hm).warm hW, h.2.2.2.2.2.warm hW⟩
theorem zSt.same {ad : Nat → Nat} {A : Nat → Prop} {u U : State} {H : Heap} (hv : U.vm = u.vm) (h : zSt ad A u H) : zSt ad A U H :=
  have ha : u.vm.Alike U.vm := by rw [hv]; exact Vm.Alike.refl _
  ⟨h.1.moved ha, h.2.1.moved ha, fun q hm => ⟨(h.2.2.1 q hm).1.moved ha, (h.2.2.1 q hm).2.moved ha⟩, h.2.2.2.1.moved ha, fun q hm => (h.2.2.2.2.1 q hm).same hv, h.2.2.2.2.2.same hv⟩
theorem zSt.narrow {ad : Nat → Nat} {A B : Nat → Prop} {U : State} {H : Heap} (h : zSt ad A U H) (hAB : ∀ q, B q → A q) : zSt ad B U H :=
  ⟨h.1.narrow hAB, h.2.1.narrow hAB, fun q hm => ⟨(h.2.2.1 q hm).1.narrow hAB, (h.2.2.1 q hm).2.narrow hAB⟩, h.2.2.2.1.narrow hAB, h.2.2.2.2.1, h.2.2.2.2.2.narrow hAB⟩
/-- what a method says when it returns, when it throws -/
def zQ (G : zG) (ad : Nat → Nat) (gr : Bool) (Q : Option Value → zS → zW → Prop) (A : Nat → Prop) : Array Value → State → Outcome → State → Prop := fun _ st o t =>
  (∃ v S w, o = .returned (v.map (zcv ad)) ∧ Q v S w ∧ zRp G ad gr S w A t t.heap) ∧ va_F A st t
def zX (G : zG) (ad : Nat → Nat) (gr : Bool) (X : String → zS → zW → Prop) (A : Nat → Prop) : String → State → State → Prop := fun E st t =>
  (∃ S w, X E S w ∧ zRp G ad gr S w A t t.heap) ∧ va_F A st t
def zPre (G : zG) (ad : Nat → Nat) (gr : Bool) (S : zS) (w : zW) (sz : Nat) (U : State) : Prop :=
  U.heap.size = sz ∧ zRp G ad gr S w (zFA ad S.length sz) U U.heap ∧ zSt ad (zFA ad S.length sz) U U.heap
def zrm (d bc bs : Nat) : Room := { frames := d + 6, cells := bc, slots := bs, locals := 60 * d + 100 }
/-- a method's contract -/
def zSp (l : Launch) (M : zM) (gr : Bool) (d bc bs : Nat) (args : List Value) (S : zS) (w : zW) (Q : Option Value → zS → zW → Prop) (X : String → zS → zW → Prop) : Prop :=
  l.stackTraces = false → ∀ (G : zG) (ad : Nat → Nat) (sz : Nat), vx_Met l M.1 (zcode M :: zTB) (zrm d bc bs) (va_Pc (args.map (zcv ad)) (zPre G ad gr S w sz)) (zQ G ad gr Q (zFA ad S.length sz)) (zX G ad gr X (zFA ad S.length sz)) bc bs (zFA ad S.length sz)
def znl (v : Value) : Bool := match v with | .null => true | _ => false
def zLk (ad : Nat → Nat) (ls : Array Slot) (nL : Nat) (lo : List Value) : Prop := lv_has ls nL [] ∧ ∀ (k : Nat) (v : Value), lo[k]? = some v → znl v = false → ls[k]? = some (.val (zcv ad v))
def zRd (M : zM) (pc : Nat) (v : Option Value) : Prop := match v with
  | none => decode M.2.1 pc = .ok (.return_, 1) ∧ M.2.2.2.1 = none
  | some (.int x) => decode M.2.1 pc = .ok (.ireturn, 1) ∧ ∃ ty, M.2.2.2.1 = some ty ∧ narrow ty (.int x) = .int x
  | _ => False
/-- a throw of a new exception with a text, by 'ldc' (wide: by 'ldc_w') -/
def zThS (M : zM) (pc : Nat) (cls : String) (wide : Bool) (ik is ic : Nat) : Prop := ∃ (ix : Nat) (rx : ByteArray), (decode rx 0 = .ok (.aload_n 0, 1) ∧ decode rx 1 = .ok (.aload_n 1, 1) ∧ decode rx 2 = .ok (.invokespecial ix, 3) ∧ decode rx 5 = .ok (.return_, 1)) ∧
  decode M.2.1 pc = .ok (.new ik, 3) ∧ decode M.2.1 (pc + 3) = .ok (.dup, 1) ∧
  (if wide = true then decode M.2.1 (pc + 4) = .ok (.ldc_w is, 3) ∧ decode M.2.1 (pc + 7) = .ok (.invokespecial ic, 3) ∧ decode M.2.1 (pc + 10) = .ok (.athrow, 1)
    else decode M.2.1 (pc + 4) = .ok (.ldc is, 2) ∧ decode M.2.1 (pc + 6) = .ok (.invokespecial ic, 3) ∧ decode M.2.1 (pc + 9) = .ok (.athrow, 1)) ∧
  Bundle.fit cls = true ∧ (∀ w ∈ Cond.classLink M.1.cls ik cls :: Cond.initialized cls :: zn_at M.1.cls ic cls ix rx ["java/lang/RuntimeException", "java/lang/Exception"], w ∈ zTB ∨ w ∈ zthx)
def zCx (l : Launch) (M : zM) (gr : Bool) (d : Nat) (Q : Option Value → zS → zW → Prop) (X : String → zS → zW → Prop) (p : Program) (e : Env) (R : Room) (s : State) (m : MethodId) (args : Array Value) (below : List Frame) (meth : Method) (c : Code) (Z : State → Prop) (G : zG) (ad : Nat → Nat) (A : Nat → Prop) : Prop :=
  p.tables.exec = Jvm.exec ∧ c.code = M.2.1 ∧ c.maxLocals = M.2.2.1 ∧ s.vm.findClass M.1.cls = some m.cls ∧ (∀ w ∈ zTB, w.before args s = true) ∧ l.stackTraces = false ∧
  (∃ n0, A = zFA ad n0 s.heap.size) ∧ (d + 6 ≤ R.frames ∧ 60 * d + 100 ≤ R.locals) ∧ zSt ad A s s.heap ∧ c.exceptionTable.toList = tableOf M.2.2.2.2 ∧
  (∀ (v : Option Value) (S : zS) (w : zW) (H : Heap) (locs : List Loc) (ls : Array Slot) (cells slots pc : Nat), Q v S w → zRp G ad gr S w A s H → va_S A s.heap H locs → cells ≤ R.cells → slots ≤ R.slots → zRd M pc v → W p l e R s m args below meth c H locs cells slots Z (F0 m pc ls (v.toList.map (zcv ad)))) ∧
  (∀ (E : String) (S : zS) (w : zW) (H : Heap) (locs : List Loc) (ls : Array Slot) (cells slots pc : Nat) (rest : List Value) (q : Addr) (ce : Cell), X E S w → zRp G ad gr S w A s H → va_S A s.heap H locs → cells ≤ R.cells → slots ≤ R.slots → H[q]? = some ce → ce.vm = .none → s.vm.findClass E = some ce.cls → M.2.2.2.2 = [] → vx_W p l e R s m args below meth c H locs cells slots Z (F0 m pc ls rest) q) ∧
  (∀ (cls text : String) (wide : Bool) (ik is ic sa : Nat) (S : zS) (w : zW) (H : Heap) (locs : List Loc) (ls : Array Slot) (cells slots pc : Nat) (rest : List Value), X cls S w → gr = false → zRp G ad gr S w A s H → va_S A s.heap H locs → ls.size = c.maxLocals → (rest.map fun v => v.category).sum ≤ 8 → cells + 1 ≤ R.cells → slots + 6 ≤ R.slots → M.2.2.2.2 = [] → zThS M pc cls wide ik is ic → vk_R M.1.cls is text sa s → W p l e R s m args below meth c H locs cells slots Z (F0 m pc ls rest)) ∧
  meth.name = M.1.name
/-- THE JUDGEMENT: from here on the method does what Q and X say -/
def zA (l : Launch) (M : zM) (gr : Bool) (d bc bs : Nat) (Q : Option Value → zS → zW → Prop) (X : String → zS → zW → Prop) (pc : Nat) (lo st : List Value) (S : zS) (w : zW) : Prop :=
  ∀ (p : Program) (e : Env) (R : Room) (s : State) (m : MethodId) (args : Array Value) (below : List Frame) (meth : Method) (c : Code) (Z : State → Prop) (G : zG) (ad : Nat → Nat) (A : Nat → Prop), zCx l M gr d Q X p e R s m args below meth c Z G ad A →
  ∀ (H : Heap) (locs : List Loc) (ls : Array Slot) (cells slots : Nat), zRp G ad gr S w A s H → va_S A s.heap H locs → zLk ad ls M.2.2.1 lo → cells + bc ≤ R.cells → slots + bs ≤ R.slots → W p l e R s m args below meth c H locs cells slots Z (F0 m pc ls (st.map (zcv ad)))
